/-! runs with a statement about answer and heap at the end -/
def mv_W (d y pc : Nat) (ls st : List mv_V) (M : mv_M) (Q : mv_V → mv_M → Prop) : Prop := ∃ v, mv_Ru d y pc ls st M v (Q v)
theorem mv_W.imp {d y pc : Nat} {ls st : List mv_V} {M : mv_M} {Q Q2 : mv_V → mv_M → Prop} (h : mv_W d y pc ls st M Q) (hq : ∀ v M', Q v M' → Q2 v M') : mv_W d y pc ls st M Q2 := by
  obtain ⟨v, h⟩ := h
  exact ⟨v, h.imp (hq v)⟩
theorem mv_W.ru {d y pc : Nat} {ls st : List mv_V} {M : mv_M} {v : mv_V} {P : mv_M → Prop} (h : mv_W d y pc ls st M (fun u M1 => u = v ∧ P M1)) : mv_Ru d y pc ls st M v P := by
  obtain ⟨u, M1, e, hu, hp⟩ := h
  subst hu
  exact ⟨M1, e, hp⟩
theorem mv_goW (k : Nat) {d y pc pc' : Nat} {ls st ls' st' : List mv_V} {M M1 : mv_M} {Q : mv_V → mv_M → Prop} (h : mv_sts k y pc ls st M = some (pc', ls', st', M1)) (e : mv_W d y pc' ls' st' M1 Q) : mv_W d y pc ls st M Q := by
  obtain ⟨v, e⟩ := e
  exact ⟨v, mv_go' k h e⟩
theorem mv_ttW {c : Prop} {_ : Decidable c} {d y p q : Nat} {ls st : List mv_V} {M : mv_M} {Q : mv_V → mv_M → Prop} (hc : c) (e : mv_W d y p ls st M Q) : mv_W d y (if c then p else q) ls st M Q := by rw [if_pos hc]; exact e
theorem mv_ffW {c : Prop} {_ : Decidable c} {d y p q : Nat} {ls st : List mv_V} {M : mv_M} {Q : mv_V → mv_M → Prop} (hc : ¬ c) (e : mv_W d y q ls st M Q) : mv_W d y (if c then p else q) ls st M Q := by rw [if_neg hc]; exact e
theorem mv_spW {c : Prop} {_ : Decidable c} {d y p q : Nat} {ls st : List mv_V} {M : mv_M} {Q : mv_V → mv_M → Prop} (ht : c → mv_W d y p ls st M Q) (hf : ¬ c → mv_W d y q ls st M Q) : mv_W d y (if c then p else q) ls st M Q := by
  by_cases hc : c
  · exact mv_ttW hc (ht hc)
  · exact mv_ffW hc (hf hc)
theorem mv_retW {d y pc : Nat} {ls st : List mv_V} {M : mv_M} {v : mv_V} {Q : mv_V → mv_M → Prop} (h : ∀ n, mv_x (n + 1) d y pc ls st M = some (v, M)) (hp : Q v M) : mv_W d y pc ls st M Q := ⟨v, mv_ret h hp⟩
theorem mv_callW {d y pc : Nat} {ls st : List mv_V} {M : mv_M} {u : mv_V} {i : Instr} {kd len a b w d1 : Nat} {z : Int} {as st2 : List mv_V} {P1 : mv_M → Prop} {Q : mv_V → mv_M → Prop} (hc : mv_code y pc = some (i, kd, len, a, b, w, z)) (hk : kd = 1 ∨ kd = 2)
    (hg : (mv_rcv kd a (st.take b).reverse && Nat.ble b st.length && Nat.ble (mv_cats (st.drop b)) 8 && Nat.ble (mv_lay (st.take b).reverse).length (mv_nl a)) = true)
    (ha : mv_ent (mv_nl a) (st.take b).reverse = as) (hr : mv_psh u (st.drop b) = st2) (h1 : mv_Ru d1 a 0 as [] M u P1) (hd : d1 < d) (e : ∀ M1, P1 M1 → mv_W d y (pc + len) ls st2 M1 Q) : mv_W d y pc ls st M Q := by
  obtain ⟨M1, h1, hp1⟩ := h1
  obtain ⟨v, e⟩ := e M1 hp1
  exact ⟨v, mv_call hc hk hg ha hr (show mv_Ru d1 a 0 as [] M u (fun M2 => M2 = M1) from ⟨M1, h1, rfl⟩) hd (fun M2 h2 => by rw [h2]; exact e)⟩
theorem mv_callPW {d y pc : Nat} {ls st : List mv_V} {M : mv_M} {u : mv_V} {i : Instr} {kd len a b w d1 : Nat} {z : Int} {as st2 : List mv_V} {Q : mv_V → mv_M → Prop} (hc : mv_code y pc = some (i, kd, len, a, b, w, z)) (hk : kd = 1 ∨ kd = 2)
    (hg : (mv_rcv kd a (st.take b).reverse && Nat.ble b st.length && Nat.ble (mv_cats (st.drop b)) 8 && Nat.ble (mv_lay (st.take b).reverse).length (mv_nl a)) = true)
    (ha : mv_ent (mv_nl a) (st.take b).reverse = as) (hr : mv_psh u (st.drop b) = st2) (h1 : mv_Ru d1 a 0 as [] M u (fun M1 => M1 = M)) (hd : d1 < d) (e : mv_W d y (pc + len) ls st2 M Q) : mv_W d y pc ls st M Q :=
  mv_callW hc hk hg ha hr h1 hd (fun M1 h => by rw [h]; exact e)
theorem mv_pcqW {d y pc pc2 : Nat} {ls st : List mv_V} {M : mv_M} {Q : mv_V → mv_M → Prop} (h : pc = pc2) (e : mv_W d y pc2 ls st M Q) : mv_W d y pc ls st M Q := h ▸ e
theorem mv_eqsW {d y pc : Nat} {ls st ls2 st2 : List mv_V} {M M2 : mv_M} {Q : mv_V → mv_M → Prop} (h1 : ls = ls2) (h2 : st = st2) (h3 : M = M2) (e : mv_W d y pc ls2 st2 M2 Q) : mv_W d y pc ls st M Q := by
  subst h1; subst h2; subst h3; exact e
theorem sp_mkW {yc ym : Nat} {as am lc lm : List mv_V} (hc : mv_ent (mv_nl yc) (mv_R 0 :: as) = lc) (hm : mv_ent (mv_nl ym) (mv_R 100 :: am) = lm)
    (h : ∀ M, sp_Inv M → mv_W 20 yc 0 lc [] M (fun v M1 => ∃ z, v = mv_I z ∧ mv_W 20 ym 0 lm [] M1 (fun w M2 => w = mv_I z ∧ sp_Inv M2))) : sp_call yc ym as am := by
  subst hc; subst hm
  intro M hI
  obtain ⟨v, M1, e, z, hv, h2⟩ := h M hI
  subst hv
  exact ⟨z, M1, e, h2.ru⟩
theorem sp_f31 {M V : mv_M} (hc : sp_c 30 M V) (ho : sp_ok V) : ∀ j, j < 24 → M 31 j = V 1 j ∧ 0 ≤ V 1 j ∧ V 1 j ≤ 9 := fun j hj => ⟨sp_c_1 hc j hj, sp_ok_1 ho j hj⟩
theorem sp_f33 {M V : mv_M} (hc : sp_c 30 M V) (ho : sp_ok V) : ∀ j, j < 24 → M 33 j = V 3 j ∧ 0 ≤ V 3 j ∧ V 3 j ≤ 9 := fun j hj => ⟨sp_c_3 hc j hj, sp_ok_3 ho j hj⟩
theorem sp_f104 {M V : mv_M} (hm : sp_m M V) (ho : sp_ok V) : ∀ j, j < 24 → M 104 j = V 1 j ∧ 0 ≤ V 1 j ∧ V 1 j ≤ 9 := fun j hj => ⟨sp_m_1 hm j hj, sp_ok_1 ho j hj⟩
theorem sp_f105 {M V : mv_M} (hm : sp_m M V) (ho : sp_ok V) : ∀ j, j < 24 → M 105 j = V 3 j ∧ 0 ≤ V 3 j ∧ V 3 j ≤ 9 := fun j hj => ⟨sp_m_3 hm j hj, sp_ok_3 ho j hj⟩
