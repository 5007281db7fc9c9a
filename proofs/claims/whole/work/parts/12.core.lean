theorem mv_nobad : ∀ y, y < 211 → mv_code y mv_bad = none := by decide +kernel
theorem mv_x_bad {n d y : Nat} {ls st : List mv_V} {M : mv_M} {r : mv_V × mv_M} (hy : y < 211) (h : mv_x n d y mv_bad ls st M = some r) : False := by
  cases n with
  | zero => cases h
  | succ n => rw [mv_x_succ, mv_nobad y hy] at h; cases h
theorem mv_out_M {a : Nat} {st : List mv_V} {M M' : mv_M} {v : mv_V} (h : mv_out a st M = some (v, M')) : M' = M := by
  unfold mv_out at h
  split at h
  · cases h; rfl
  · cases h; rfl
  · split at h
    · cases h; rfl
    · cases h
  · split at h
    · cases h; rfl
    · cases h
  · split at h
    · cases h; rfl
    · cases h
  · cases h; rfl
  · cases h; rfl
  · cases h; rfl
  · cases h
section
variable {p : Program} {l : Launch} {e : Env} {R : Room} {s : State} {m : MethodId} {args : Array Value} {below : List Frame} {meth : Method} {c : Code} {cells slots : Nat} {Q : State → Prop}
variable {ad : Nat → Nat} {cA : Nat → ClassId} {D : va_G} {x0 : Value} {L : Nat} {xs : Nat → Int32} {A : Nat → Prop} {d y : Nat}
variable {K : Nat} {n pc pc2 pc' a b w len idx : Nat} {z : Int} {ls st ls' st' : List mv_V} {M M' : mv_M} {cc : ByteArray}
theorem mv_nbyte {x : Int} (h : x = 0 ∨ x = 1) : narrow .byte (.int (Int32.ofInt x)) = .int (Int32.ofInt x) := by
  rcases h with rfl | rfl <;> decide +kernel
theorem mv_nchar {x : Int} (h : 0 ≤ x ∧ x < 65536) : narrow .char (.int (Int32.ofInt x)) = .int (Int32.ofInt x) := by
  have e9 : Int32.ofInt x = nI x.toNat := by
    show _ = Int32.ofNat _
    rw [mv_oN, (show ((x.toNat : Nat) : Int) = x by omega)]
  rw [e9]
  exact (pk_charN (by omega)).1
theorem mv_rok6 {r : Option FieldType} (h : mv_rok 6 r = true) : ∃ C : String, r = some (.object C) := by
  rcases r with _ | t
  · cases h
  · cases t <;> first
      | exact ⟨_, rfl⟩
      | cases h
/-- a method's end -/
theorem mv_retk (cx : mv_Cx K p R s m args c 0 0 ad cA D x0 L xs A d y) (hr : meth.sig.returnType = mv_yr y) (hlk : meth.locks = false) {i : Instr} (hck : mv_ck y pc i 3 len a b w z = true) {v : mv_V} (ho : mv_out a st M = some (v, M)) (hv : mv_nL K st → mv_nV K v) (free : Addr → Prop) (hA : ∀ q, A q → free q) :
    mv_Se K p l e R s m args below meth c 0 0 (MQ below (mv_Q K ad cA D x0 L xs A v M) args s 0 0 free) ad cA D x0 L xs A n pc ls st M := by
  obtain ⟨hx, hb, hml, hown, hts, hK, hF, hFr, hAA, hfr, hlo, hce, hsl, hx0⟩ := cx
  unfold mv_ck at hck
  obtain ⟨hd, hck⟩ := mv_a1 hck
  have hd := of_decide_eq_true hd
  intro H locs lsA hn hW hl nl ns
  have hq : ∀ (v9 : Option Value), mv_rv ad x0 v = v9 → ∀ t : State, t.heap = H → s.WarmedH t.vm → mv_Q K ad cA D x0 L xs A v M args s (.returned v9) t := by
    intro v9 e9 t ht hw
    exact ⟨⟨by rw [e9], by rw [ht]; exact hW.1, hW.2.1, hW.2.2.2.1, hW.2.2.2.2, hv ns⟩, hW.2.2.1.F ht⟩
  have hf : ∀ q ∈ locs, free q.base := fun q h9 => hA _ (hW.2.2.1.2.2 q h9)
  cases i
  case ireturn =>
    obtain ⟨hck, hrk⟩ := mv_a1 hck
    obtain ⟨hck, ha⟩ := mv_a1 hck
    have hlen := mv_beq (mv_a1 hck).2; subst hlen
    simp only [Bool.or_eq_true] at ha
    rcases ha with ((ha | ha) | ha) | ha
    · have ha := mv_beq ha; subst ha
      have hty : mv_yr y = some .int := of_decide_eq_true hrk
      rcases st with _ | ⟨u, _ | ⟨u2, r⟩⟩
      · cases ho
      · rcases u with x | x | x | x
        · cases ho
          exact W.zret (ty := .int) hx hb (by rw [hr, hty]) rfl (hq _ rfl) hf hd hlk
        · cases ho
        · cases ho
        · match x, ho with
          | 0, ho => cases ho
          | x + 1, ho => cases ho
      · rcases u with x | x | x | x
        · cases ho
        · cases ho
        · cases ho
        · match x, ho with
          | 0, ho => cases ho
          | x + 1, ho => cases ho
    · have ha := mv_beq ha; subst ha
      have hty : mv_yr y = some .boolean := of_decide_eq_true hrk
      rcases st with _ | ⟨u, _ | ⟨u2, r⟩⟩
      · cases ho
      · rcases u with x | x | x | x
        · have ho : (if x = 0 ∨ x = 1 then some (mv_I x, M) else none) = some (v, M) := ho
          by_cases h9 : x = 0 ∨ x = 1
          · rw [if_pos h9] at ho
            cases ho
            exact W.zret (ty := .boolean) hx hb (by rw [hr, hty]) (mv_nb01 x h9).1 (hq _ rfl) hf hd hlk
          · rw [if_neg h9] at ho; cases ho
        · cases ho
        · cases ho
        · match x, ho with
          | 0, ho => cases ho
          | x + 1, ho => cases ho
      · rcases u with x | x | x | x
        · cases ho
        · cases ho
        · cases ho
        · match x, ho with
          | 0, ho => cases ho
          | x + 1, ho => cases ho
    · have ha := mv_beq ha; subst ha
      have hty : mv_yr y = some .byte := of_decide_eq_true hrk
      rcases st with _ | ⟨u, _ | ⟨u2, r⟩⟩
      · cases ho
      · rcases u with x | x | x | x
        · have ho : (if x = 0 ∨ x = 1 then some (mv_I x, M) else none) = some (v, M) := ho
          by_cases h9 : x = 0 ∨ x = 1
          · rw [if_pos h9] at ho
            cases ho
            exact W.zret (ty := .byte) hx hb (by rw [hr, hty]) (mv_nbyte h9) (hq _ rfl) hf hd hlk
          · rw [if_neg h9] at ho; cases ho
        · cases ho
        · cases ho
        · match x, ho with
          | 0, ho => cases ho
          | x + 1, ho => cases ho
      · rcases u with x | x | x | x
        · cases ho
        · cases ho
        · cases ho
        · match x, ho with
          | 0, ho => cases ho
          | x + 1, ho => cases ho
    · have ha := mv_beq ha; subst ha
      have hty : mv_yr y = some .char := of_decide_eq_true hrk
      rcases st with _ | ⟨u, _ | ⟨u2, r⟩⟩
      · cases ho
      · rcases u with x | x | x | x
        · have ho : (if 0 ≤ x ∧ x < 65536 then some (mv_I x, M) else none) = some (v, M) := ho
          by_cases h9 : 0 ≤ x ∧ x < 65536
          · rw [if_pos h9] at ho
            cases ho
            exact W.zret (ty := .char) hx hb (by rw [hr, hty]) (mv_nchar h9) (hq _ rfl) hf hd hlk
          · rw [if_neg h9] at ho; cases ho
        · cases ho
        · cases ho
        · match x, ho with
          | 0, ho => cases ho
          | x + 1, ho => cases ho
      · rcases u with x | x | x | x
        · cases ho
        · cases ho
        · cases ho
        · match x, ho with
          | 0, ho => cases ho
          | x + 1, ho => cases ho
  case lreturn =>
    obtain ⟨hck, hrk⟩ := mv_a1 hck
    obtain ⟨hck, ha⟩ := mv_a1 hck
    have hlen := mv_beq (mv_a1 hck).2; subst hlen
    have ha := mv_beq ha; subst ha
    have hty : mv_yr y = some .long := of_decide_eq_true hrk
    rcases st with _ | ⟨u, _ | ⟨u2, r⟩⟩
    · cases ho
    · rcases u with x | x | x | x
      · cases ho
      · cases ho
        exact W.lret hx hb (by rw [hr, hty]) (hq _ rfl) hf hd hlk
      · cases ho
      · match x, ho with
        | 0, ho => cases ho
        | x + 1, ho => cases ho
    · rcases u with x | x | x | x
      · cases ho
      · cases ho
      · cases ho
      · match x, ho with
        | 0, ho => cases ho
        | x + 1, ho => cases ho
  case areturn =>
    obtain ⟨hck, hrk⟩ := mv_a1 hck
    obtain ⟨hck, ha⟩ := mv_a1 hck
    have hlen := mv_beq (mv_a1 hck).2; subst hlen
    have ha := mv_beq ha; subst ha
    obtain ⟨C, hty⟩ := mv_rok6 hrk
    rcases st with _ | ⟨u, _ | ⟨u2, r⟩⟩
    · cases ho
    · rcases u with x | x | x | x
      · cases ho
      · cases ho
      · cases ho
        exact W.aret hx hb (by rw [hr, hty]) (Or.inl ⟨C, rfl⟩) (Or.inr ⟨_, rfl⟩) (hq _ rfl) hf hd hlk
      · match x, ho with
        | 0, ho =>
          cases ho
          exact W.aret hx hb (by rw [hr, hty]) (Or.inl ⟨C, rfl⟩) (Or.inl rfl) (hq _ rfl) hf hd hlk
        | x + 1, ho => cases ho
    · rcases u with x | x | x | x
      · cases ho
      · cases ho
      · cases ho
      · match x, ho with
        | 0, ho => cases ho
        | x + 1, ho => cases ho
  case return_ =>
    obtain ⟨hck, hrk⟩ := mv_a1 hck
    obtain ⟨hck, ha⟩ := mv_a1 hck
    have hlen := mv_beq (mv_a1 hck).2; subst hlen
    have ha := mv_beq ha; subst ha
    have hty : mv_yr y = none := of_decide_eq_true hrk
    rcases st with _ | ⟨u, r⟩
    · cases ho
      exact W.vret hx hb (by rw [hr, hty]) (hq _ rfl) hf hd hlk
    · cases ho
  all_goals first
    | (cases hck; done)
    | (simp only [Bool.and_eq_true] at hck
       first
         | (have h9 := hck.1.1.1.1.1; cases h9; done)
         | (have h9 := hck.1.1.1.1; cases h9; done)
         | (have h9 := hck.1.1.1; cases h9; done)
         | (have h9 := hck.1.1; cases h9; done)
         | (have h9 := hck.1; cases h9; done)
         | (have h9 := hck.1.1.1.1.1.1.2; cases h9; done)
         | (simp [Nat.beq] at hck; done))
theorem mv_out_n {v : mv_V} (ho : mv_out a st M = some (v, M')) (ns : mv_nL K st) : mv_nV K v := by
  unfold mv_out at ho
  split at ho
  · cases ho; trivial
  · cases ho; exact (mv_nc.mp ns).1
  · split at ho
    · cases ho; exact (mv_nc.mp ns).1
    · cases ho
  · split at ho
    · cases ho; exact (mv_nc.mp ns).1
    · cases ho
  · split at ho
    · cases ho; exact (mv_nc.mp ns).1
    · cases ho
  · cases ho; exact (mv_nc.mp ns).1
  · cases ho; exact (mv_nc.mp ns).1
  · cases ho; trivial
  · cases ho
end
/-- the two machines: P of a frame, K of a method -/
def mv_SP (K : Nat) (l : Launch) (ad : Nat → Nat) (cA : Nat → ClassId) (D : va_G) (x0 : Value) (L : Nat) (xs : Nat → Int32) (n : Nat) : Prop :=
  ∀ (d y pc : Nat) (ls st : List mv_V) (M M' : mv_M) (v : mv_V), y < 211 → mv_x n d y pc ls st M = some (v, M') →
    ∀ (p : Program) (e : Env) (R : Room) (s : State) (m : MethodId) (args : Array Value) (below : List Frame) (meth : Method) (c : Code) (cells slots : Nat) (Q : State → Prop) (A : Nat → Prop), mv_Cx K p R s m args c cells slots ad cA D x0 L xs A d y →
    (∀ (pcR len a b w : Nat) (z : Int) (i : Instr) (lsR stR : List mv_V), mv_ck y pcR i 3 len a b w z = true → mv_out a stR M' = some (v, M') → mv_Se K p l e R s m args below meth c cells slots Q ad cA D x0 L xs A (mv_nl y) pcR lsR stR M') →
    mv_Se K p l e R s m args below meth c cells slots Q ad cA D x0 L xs A (mv_nl y) pc ls st M
def mv_SM (K : Nat) (l : Launch) (ad : Nat → Nat) (cA : Nat → ClassId) (D : va_G) (x0 : Value) (L : Nat) (xs : Nat → Int32) (n : Nat) : Prop :=
  ∀ (d y : Nat) (vs : List mv_V) (M M' : mv_M) (v : mv_V), y < 208 → mv_nL K vs → (mv_lay vs).length ≤ mv_nl y → mv_x n d y 0 (mv_ent (mv_nl y) vs) [] M = some (v, M') →
    ∀ sz : Nat, Met l (mv_yn y) [.code (mv_yn y) (mv_yb y) (mv_nl y) (mv_yr y)] (mv_rm d) (va_Pc (vs.map (mv_v ad x0)) (mv_Pr K ad cA D x0 L xs M sz)) (mv_Q K ad cA D x0 L xs (va_A (mv_ws K ad cA M) sz) v M') 0 0 (va_A (mv_ws K ad cA M) sz)
section
variable {K : Nat} {l : Launch} {ad : Nat → Nat} {cA : Nat → ClassId} {D : va_G} {x0 : Value} {L : Nat} {xs : Nat → Int32}
theorem mv_SPM (hx0 : x0 = .null ∨ ∃ t, x0 = .ref t) (hmk : ∀ a, a < 208 → mv_mk a = true) {n : Nat} (hP : mv_SP K l ad cA D x0 L xs n) : mv_SM K l ad cA D x0 L xs n := by
  intro d y vs M M' v hy hnv hlay hx sz
  have hpl : plainName (mv_yn y).cls = true := by
    have h := hmk y hy
    unfold mv_mk at h
    simp only [Bool.and_eq_true] at h
    exact h.1.1.1.1.1.1
  refine Met.ofW (cc := mv_yb y) (maxL := mv_nl y) (ret := mv_yr y) hpl rfl ?_
  intro p e s m args below meth c s₁ B hml hv
  obtain ⟨rfl, hsz, hPP, hK, hD0, hAW, hF, hFr, hnM, hSc⟩ := hv
  subst hsz
  have hD := hD0.self (sz := s.heap.size)
  generalize hAe : va_A (mv_ws K ad cA M) s.heap.size = A at hD hF ⊢
  have hA : ∀ q : Nat, s.heap.size ≤ q → A q := fun q h => by rw [← hAe]; exact Or.inr h
  have cx : mv_Cx K p (headSpec [.code (mv_yn y) (mv_yb y) (mv_nl y) (mv_yr y)] (mv_rm d)).room s m ((vs.map (mv_v ad x0)).toArray) c 0 0 ad cA D x0 L xs A d y :=
    ⟨B.exec, B.bytes, hml, findClass_of_methodNamed B.named, hAW.use, hK, hF, hFr, hA, Nat.le_refl _, Nat.le_refl _, Nat.zero_le _, Nat.zero_le _, hx0⟩
  have hl := lv_entry (vs.map (mv_v ad x0)) (n := mv_nl y) (by rw [mv_lay_len hx0]; exact hlay)
  rw [lg_entry_eq]
  generalize (lg_sl (vs.map (mv_v ad x0)) ++ List.replicate (mv_nl y - (lg_sl (vs.map (mv_v ad x0))).length) Slot.unset).toArray = lsA at hl ⊢
  have key := hP d y 0 _ _ M M' v (by omega) hx p e _ s m _ below meth c 0 0 (MQ below (mv_Q K ad cA D x0 L xs A v M') ((vs.map (mv_v ad x0)).toArray) s 0 0 A) A cx
    (fun pcR len a b w z i lsR stR hck ho => mv_retk (d := d) (y := y) cx B.returns B.notSynchronized hck ho (fun ns => mv_out_n ho ns) A (fun q h => h))
  exact key s.heap [] lsA (mv_pad_len _ _ hlay) ⟨hPP, hD, va_S.rf, hnM, hSc⟩ (mv_lr_ent hx0 hlay hl) (mv_nL_ent hnv) (fun v h => absurd h List.not_mem_nil)
theorem mv_SPs (hx0 : x0 = .null ∨ ∃ t, x0 = .ref t) (hck : ∀ y pc, y < 211 → mv_cr y pc = true) (hmk : ∀ a, a < 208 → mv_mk a = true) : ∀ n : Nat, mv_SP K l ad cA D x0 L xs n := by
  intro n
  induction n with
  | zero => intro d y pc ls st M M' v _ h; cases h
  | succ n ih =>
    have ihM := mv_SPM hx0 hmk ih
    intro d y pc ls st M M' v hy h p e R s m args below meth c cells slots Q A cx kr
    rw [mv_x_succ] at h
    have hc9 := hck y pc hy
    unfold mv_cr at hc9
    cases hc : mv_code y pc with
    | none => rw [hc] at h; cases h
    | some q =>
      obtain ⟨i, kd, len, a, b, w, z⟩ := q
      rw [hc] at h hc9
      dsimp only at h hc9
      cases h0 : Nat.beq kd 0 with
      | true =>
        rw [h0] at h
        have h0 := mv_beq h0
        subst h0
        dsimp only [cond] at h
        cases hs : mv_step i len a b z pc ls st M with
        | none => rw [hs] at h; cases h
        | some q =>
          obtain ⟨pc', ls', st', M1⟩ := q
          rw [hs] at h
          dsimp only at h
          refine mv_one cx rfl hc9 hs (fun hb => ?_) (ih d y pc' ls' st' M1 M' v hy h p e R s m args below meth c cells slots Q A cx kr)
          rw [hb] at h
          exact mv_x_bad hy h
      | false =>
        rw [h0] at h
        dsimp only [cond] at h
        cases h3 : Nat.beq kd 3 with
        | true =>
          rw [h3] at h
          have h3 := mv_beq h3
          subst h3
          have hM := mv_out_M h
          subst hM
          exact kr pc len a b w z i ls st hc9 h
        | false =>
          rw [h3] at h
          dsimp only [cond] at h
          cases d with
          | zero => cases h
          | succ d =>
            dsimp only at h
            generalize hg : (mv_rcv kd a (st.take b).reverse && Nat.ble b st.length && Nat.ble (mv_cats (st.drop b)) 8 && Nat.ble (mv_lay (st.take b).reverse).length (mv_nl a)) = g at h
            cases g with
            | false => cases h
            | true =>
              dsimp only [cond] at h
              cases hx : mv_x n d a 0 (mv_ent (mv_nl a) (st.take b).reverse) [] M with
              | none => rw [hx] at h; cases h
              | some q =>
                obtain ⟨u, M1⟩ := q
                rw [hx] at h
                dsimp only at h
                have hlay : (mv_lay (st.take b).reverse).length ≤ mv_nl a := Nat.le_of_ble_eq_true (mv_a1 hg).2
                have ha : a < 208 := by
                  have hc8 := hc9
                  unfold mv_ck at hc8
                  have hc8 := (mv_a1 hc8).2
                  cases i
                  case invokestatic idx =>
                    have hc8 := (mv_a1 hc8).2
                    simp only [Bool.or_eq_true, Bool.and_eq_true] at hc8
                    rcases hc8 with ⟨h9, -⟩ | ⟨⟨⟨⟨-, h1⟩, -⟩, -⟩, -⟩
                    · rw [h9] at h0; cases h0
                    · exact mv_blt h1
                  case invokevirtual idx =>
                    simp only [Bool.and_eq_true] at hc8
                    exact mv_blt hc8.1.1.1.1.1.2
                  all_goals first
                    | (cases hc8; done)
                    | (simp only [Bool.and_eq_true] at hc8
                       first
                         | (have h9 := hc8.1.1.1.1.1; rw [h9] at h0; cases h0; done)
                         | (have h9 := hc8.1.1.1.1; rw [h9] at h0; cases h0; done)
                         | (have h9 := hc8.1.1.1; first | (rw [h9] at h0; cases h0; done) | (rw [h9] at h3; cases h3; done))
                         | (have h9 := hc8.1.1; first | (rw [h9] at h0; cases h0; done) | (rw [h9] at h3; cases h3; done))
                         | (have h9 := hc8.1; first | (rw [h9] at h0; cases h0; done) | (rw [h9] at h3; cases h3; done)))
                intro H locs lsA hn hW hl nl ns
                have nas : mv_nL K (st.take b).reverse := fun v9 h9 => ns v9 (List.mem_of_mem_take (List.mem_reverse.mp h9))
                exact mv_s_call cx rfl h0 h3 hc9 hmk hg (ihM d a _ M M1 u ha nas hlay hx)
                  (ih (d + 1) y (pc + len) ls (mv_psh u (st.drop b)) M1 M' v hy h p e R s m args below meth c cells slots Q A cx kr) H locs lsA hn hW hl nl ns
end
