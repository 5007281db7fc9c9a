/-! best: the class' table of sets -/
theorem sp_p2b {c : Nat} (h : c ≤ 6) : 1 ≤ 2 ^ c ∧ 2 ^ c ≤ 64 ∧ mv_shl 1 (c : Int) = ((2 ^ c : Nat) : Int) := by
  rcases (by omega : c = 0 ∨ c = 1 ∨ c = 2 ∨ c = 3 ∨ c = 4 ∨ c = 5 ∨ c = 6) with q | q | q | q | q | q | q <;> subst q <;> decide
def sp_of (old g : Nat → Int) (rm : Int) (t : Nat) : Int := sp_in old g rm t t t (old t)
theorem sp_in_b {old g : Nat → Int} {rm B : Int} {s : Nat} (hs : s < 64) (hg : ∀ t, t < 64 → -20000000000 ≤ g t ∧ g t ≤ 20000000000) (ho : ∀ t, t < 64 → -B ≤ old t ∧ old t ≤ B) : ∀ (r h : Nat) (acc : Int), h ≤ s → h &&& s = h → (-(B + 20000000000) ≤ acc ∧ acc ≤ B + 20000000000) → -(B + 20000000000) ≤ sp_in old g rm s r h acc ∧ sp_in old g rm s r h acc ≤ B + 20000000000
  | 0, _, _, _, _, h => h
  | _ + 1, 0, _, _, _, h => h
  | r + 1, k + 1, acc, hk, hsub, h => by
    have hsu := sp_sub hs (by omega) hsub
    have b1 := ho (s ^^^ (k + 1)) (by omega)
    have b2 := hg (k + 1) (by omega)
    have hkk := Nat.and_le_left (n := k) (m := s)
    rw [sp_in]
    refine sp_in_b hs hg ho r (k &&& s) _ (by omega) hsu.2.2 ?_
    split
    · unfold sp_mxi
      split <;> omega
    · exact h
theorem sp_of_b {old g : Nat → Int} {rm B : Int} (h0 : 0 ≤ B) (hg : ∀ t, t < 64 → -20000000000 ≤ g t ∧ g t ≤ 20000000000) (ho : ∀ t, t < 64 → -B ≤ old t ∧ old t ≤ B) {t : Nat} (ht : t < 64) : -(B + 20000000000) ≤ sp_of old g rm t ∧ sp_of old g rm t ≤ B + 20000000000 := by
  have := ho t ht
  exact sp_in_b ht hg ho t t _ (Nat.le_refl _) (Nat.and_self t) (by omega)
theorem sp_cof2 {V M0 : mv_M} {P : Nat → Nat → List Int} {g old : Nat → Int} {u d : Nat} {B : Int} (ho : sp_ok V) (ht : sp_tb V P M0) (hu : (u : Int) < V 0 9) (hB : 0 ≤ B ∧ B ≤ 1000000000000000)
    (hg : ∀ t, t < 64 → -20000000000 ≤ g t ∧ g t ≤ 20000000000) (ho2 : ∀ t, t < 64 → -B ≤ old t ∧ old t ≤ B) (h68 : ∀ t, t < 2 ^ (V 0 8).toNat → M0 68 t = g t) :
    ∀ (s : Nat) (M : mv_M) (l3 : mv_V), s < 2 ^ (V 0 8).toNat → mv_ag [67] M0 M → (∀ t, t < 2 ^ (V 0 8).toNat → M 67 t = if s < t then sp_of old g (sp_room V u) t else old t) → mv_isL l3 = false →
      mv_Ru (d + 1) 35 14 [mv_R 60, mv_I (u : Int), mv_I (s : Int), l3] [] M mv_U (fun M1 => mv_ag [67] M0 M1 ∧ ∀ t, t < 2 ^ (V 0 8).toNat → M1 67 t = sp_of old g (sp_room V u) t) := by
  have h8 := sp_ok_s8 ho
  have hp := sp_p2b (c := (V 0 8).toNat) (by omega)
  intro s
  induction s with
  | zero =>
    intro M l3 hs hag hinv h3
    refine mv_go' 2 (pc' := if 0 < ((0 : Nat) : Int) then 18 else 82) (ls' := [mv_R 60, mv_I (u : Int), mv_I ((0 : Nat) : Int), l3]) (st' := []) (M1 := M) rfl ?_
    refine mv_ff' (by decide) ?_
    exact mv_ret (fun n => rfl) ⟨hag, fun t ht2 => by
      rw [hinv t ht2]
      by_cases q : 0 < t
      · rw [if_pos q]
      · rw [if_neg q, show t = 0 from by omega]; rfl⟩
  | succ k ih =>
    intro M l3 hs hag hinv h3
    refine mv_go' 2 (pc' := if 0 < ((k + 1 : Nat) : Int) then 18 else 82) (ls' := [mv_R 60, mv_I (u : Int), mv_I ((k + 1 : Nat) : Int), l3]) (st' := []) (M1 := M) rfl ?_
    refine mv_tt' (by omega) ?_
    refine mv_go' 2 (pc' := 20) (ls' := [mv_R 60, mv_I (u : Int), mv_I ((k + 1 : Nat) : Int), mv_I ((k + 1 : Nat) : Int)]) (st' := []) (M1 := M) rfl ?_
    refine sp_cof1 (M0 := M) (g := g) (old := old) (B := B) ho (sp_tb_ag ht hag (by decide)) hu (by omega) hB hg ho2 (fun t ht2 => by rw [hag 68 (by decide)]; exact h68 t ht2) hs (k + 1) (k + 1) M (old (k + 1)) (Nat.le_refl _) (Nat.and_self _) mv_ag.rf (fun t ht2 => by rw [hinv t (by omega), if_neg (by omega)]) (fun _ _ => rfl) (by rw [hinv (k + 1) hs, if_neg (by omega)]) (by have := ho2 (k + 1) (by omega); omega) (fun M2 q1 q2 q3 => ?_)
    refine mv_go' 2 (pc' := 14) (ls' := [mv_R 60, mv_I (u : Int), mv_I (mv_w (((k + 1 : Nat) : Int) + (-1))), mv_I 0]) (st' := []) (M1 := M2) rfl ?_
    rw [show mv_w (((k + 1 : Nat) : Int) + (-1)) = (k : Int) from by unfold mv_w; omega]
    refine ih M2 _ (by omega) (hag.tr q1) (fun t ht2 => ?_) rfl
    by_cases q : t = k + 1
    · rw [q, q3, if_pos (by omega)]; rfl
    · rw [q2 t q, hinv t ht2]
      by_cases q4 : k + 1 < t
      · rw [if_pos q4, if_pos (by omega)]
      · rw [if_neg q4, if_neg (by omega)]
theorem sp_gbb {V : mv_M} (P : Nat → Nat → List Int) (ho : sp_ok V) {u : Nat} (hu : (u : Int) < V 0 9) (t : Nat) : -20000000000 ≤ sp_gb (sp_G V P u) t (V 0 8).toNat ∧ sp_gb (sp_G V P u) t (V 0 8).toNat ≤ 20000000000 := by
  have h8 := sp_ok_s8 ho
  have h := sp_gb_b (sp_G V P u) t (fun c => sp_G_b P ho hu c) (V 0 8).toNat
  omega
theorem sp_cof {V M : mv_M} {P : Nat → Nat → List Int} {old : Nat → Int} {u : Nat} {B : Int} (ho : sp_ok V) (ht : sp_tb V P M) (hu : (u : Int) < V 0 9) (hB : 0 ≤ B ∧ B ≤ 1000000000000000) (ho2 : ∀ t, t < 64 → -B ≤ old t ∧ old t ≤ B) (hold : ∀ t, t < 2 ^ (V 0 8).toNat → M 67 t = old t) :
    mv_Ru 2 35 0 [mv_R 60, mv_I (u : Int), mv_U, mv_U] [] M mv_U (fun M1 => mv_ag [67, 68] M M1 ∧ ∀ t, t < 2 ^ (V 0 8).toNat → M1 67 t = sp_of old (fun t => sp_gb (sp_G V P u) t (V 0 8).toNat) (sp_room V u) t) := by
  have h8 := sp_ok_s8 ho
  obtain ⟨hp1, hp2, hp3⟩ := sp_p2b (c := (V 0 8).toNat) (by omega)
  rw [show ((V 0 8).toNat : Int) = V 0 8 from by omega] at hp3
  refine mv_go' 2 (pc' := 2) (ls' := [mv_R 60, mv_I (u : Int), mv_U, mv_U]) (st' := [mv_I (u : Int), mv_R 60]) (M1 := M) rfl ?_
  refine mv_call (st2 := []) rfl (Or.inl rfl) rfl rfl rfl (sp_cag ho ht hu) (by first | decide | omega) (fun Ma1 hm2 => ?_)
  have hx := hm2
  have e8 : Ma1 60 8 = V 0 8 := by rw [hx.1 60 (by decide)]; exact ht.1.1
  refine mv_go' 3 (pc' := 10) (ls' := [mv_R 60, mv_I (u : Int), mv_U, mv_U]) (st' := [mv_I (Ma1 60 8), mv_I 1]) (M1 := Ma1) rfl ?_
  rw [show Ma1 60 8 = V 0 8 from by exact e8]
  refine mv_go' 1 (pc' := 11) (ls' := [mv_R 60, mv_I (u : Int), mv_U, mv_U]) (st' := [mv_I (mv_shl 1 (V 0 8))]) (M1 := Ma1) rfl ?_
  rw [show mv_shl 1 (V 0 8) = ((2 ^ (V 0 8).toNat : Nat) : Int) from by exact hp3]
  refine mv_go' 3 (pc' := 14) (ls' := [mv_R 60, mv_I (u : Int), mv_I (mv_w (((2 ^ (V 0 8).toNat : Nat) : Int) - 1)), mv_U]) (st' := []) (M1 := Ma1) rfl ?_
  have hag0 : mv_ag [67, 68] M Ma1 := hx.1.wd (by decide)
  refine mv_eqs (ls2 := [mv_R 60, mv_I (u : Int), mv_I ((2 ^ (V 0 8).toNat - 1 : Nat) : Int), mv_U]) (by rw [show mv_w (((2 ^ (V 0 8).toNat : Nat) : Int) - 1) = ((2 ^ (V 0 8).toNat - 1 : Nat) : Int) from by rw [mv_w_id (by omega) (by omega)]; omega]) rfl rfl ?_
  exact (sp_cof2 (d := 1) (M0 := Ma1) (old := old) ho (sp_tb_ag ht hx.1 (by decide)) hu hB (fun t _ => sp_gbb P ho hu t) ho2 hx.2 (2 ^ (V 0 8).toNat - 1) Ma1 mv_U (by omega) mv_ag.rf (fun t ht2 => by rw [hx.1 67 (by decide), hold t ht2, if_neg (by omega)]) rfl).imp (fun M1 q => ⟨hag0.tr (q.1.wd (by decide)), q.2⟩)
