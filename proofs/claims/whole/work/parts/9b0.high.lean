/-! what the small machine never writes: cells from 200 on -/
def mv_hi (M M1 : mv_M) : Prop := ∀ j, 200 ≤ j → M1 j = M j
theorem mv_hi.of {M M1 : mv_M} (h : M1 = M) : mv_hi M M1 := fun j _ => by rw [h]
theorem mv_hi.st {M : mv_M} {i : Nat} {f : Nat → Int} (h : i < 200) : mv_hi M (mv_st M i f) := fun j hj => mv_st_n M f (by omega)
theorem mv_fk_7 {a b : Nat} (h : mv_fk a b = 0 ∨ mv_fk a b = 2 ∨ mv_fk a b = 3) : a < 7 := by
  by_cases c : a < 7
  · exact c
  · exfalso
    by_cases c7 : a = 7
    · subst c7
      have e : mv_fk 7 b = mv_nn 9 [1, 4] b := rfl
      rw [e] at h
      match b, h with
      | 0, h => exact absurd h (by decide)
      | 1, h => exact absurd h (by decide)
      | b + 2, h => exact absurd h (by show ¬ (9 = 0 ∨ 9 = 2 ∨ 9 = 3); decide)
    · obtain ⟨k, rfl⟩ : ∃ k, a = k + 8 := ⟨a - 8, by omega⟩
      exact absurd h (by show ¬ (9 = 0 ∨ 9 = 2 ∨ 9 = 3); decide)
theorem mv_bin_h {f : Int → Int → Int} {pc : Nat} {ls st : List mv_V} {M : mv_M} {q : Nat × List mv_V × List mv_V × mv_M} (h : mv_bin f pc ls st M = some q) : q.2.2.2 = M := by
  unfold mv_bin at h
  try simp only [Bool.cond_eq_ite] at h
  repeat' (split at h)
  all_goals first | (cases h; rfl) | cases h
theorem mv_una_h {f : Int → Int} {pc : Nat} {ls st : List mv_V} {M : mv_M} {q : Nat × List mv_V × List mv_V × mv_M} (h : mv_una f pc ls st M = some q) : q.2.2.2 = M := by
  unfold mv_una at h
  try simp only [Bool.cond_eq_ite] at h
  repeat' (split at h)
  all_goals first | (cases h; rfl) | cases h
theorem mv_bnl_h {f : Int → Int → Int} {pc : Nat} {ls st : List mv_V} {M : mv_M} {q : Nat × List mv_V × List mv_V × mv_M} (h : mv_bnl f pc ls st M = some q) : q.2.2.2 = M := by
  unfold mv_bnl at h
  try simp only [Bool.cond_eq_ite] at h
  repeat' (split at h)
  all_goals first | (cases h; rfl) | cases h
theorem mv_ldi_h {a : Nat} {pc : Nat} {ls st : List mv_V} {M : mv_M} {q : Nat × List mv_V × List mv_V × mv_M} (h : mv_ldi a pc ls st M = some q) : q.2.2.2 = M := by
  unfold mv_ldi at h
  try simp only [Bool.cond_eq_ite] at h
  repeat' (split at h)
  all_goals first | (cases h; rfl) | cases h
theorem mv_ldl_h {a : Nat} {pc : Nat} {ls st : List mv_V} {M : mv_M} {q : Nat × List mv_V × List mv_V × mv_M} (h : mv_ldl a pc ls st M = some q) : q.2.2.2 = M := by
  unfold mv_ldl at h
  try simp only [Bool.cond_eq_ite] at h
  repeat' (split at h)
  all_goals first | (cases h; rfl) | cases h
theorem mv_lda_h {a : Nat} {pc : Nat} {ls st : List mv_V} {M : mv_M} {q : Nat × List mv_V × List mv_V × mv_M} (h : mv_lda a pc ls st M = some q) : q.2.2.2 = M := by
  unfold mv_lda at h
  try simp only [Bool.cond_eq_ite] at h
  repeat' (split at h)
  all_goals first | (cases h; rfl) | cases h
theorem mv_sti_h {a : Nat} {pc : Nat} {ls st : List mv_V} {M : mv_M} {q : Nat × List mv_V × List mv_V × mv_M} (h : mv_sti a pc ls st M = some q) : q.2.2.2 = M := by
  unfold mv_sti at h
  try simp only [Bool.cond_eq_ite] at h
  repeat' (split at h)
  all_goals first | (cases h; rfl) | cases h
theorem mv_stl_h {a : Nat} {pc : Nat} {ls st : List mv_V} {M : mv_M} {q : Nat × List mv_V × List mv_V × mv_M} (h : mv_stl a pc ls st M = some q) : q.2.2.2 = M := by
  unfold mv_stl at h
  try simp only [Bool.cond_eq_ite] at h
  repeat' (split at h)
  all_goals first | (cases h; rfl) | cases h
theorem mv_sta_h {a : Nat} {pc : Nat} {ls st : List mv_V} {M : mv_M} {q : Nat × List mv_V × List mv_V × mv_M} (h : mv_sta a pc ls st M = some q) : q.2.2.2 = M := by
  unfold mv_sta at h
  try simp only [Bool.cond_eq_ite] at h
  repeat' (split at h)
  all_goals first | (cases h; rfl) | cases h
theorem mv_inc_h {a : Nat} {z : Int} {pc : Nat} {ls st : List mv_V} {M : mv_M} {q : Nat × List mv_V × List mv_V × mv_M} (h : mv_inc a z pc ls st M = some q) : q.2.2.2 = M := by
  unfold mv_inc at h
  try simp only [Bool.cond_eq_ite] at h
  repeat' (split at h)
  all_goals first | (cases h; rfl) | cases h
theorem mv_gf_h {a b : Nat} {pc : Nat} {ls st : List mv_V} {M : mv_M} {q : Nat × List mv_V × List mv_V × mv_M} (h : mv_gf a b pc ls st M = some q) : q.2.2.2 = M := by
  unfold mv_gf at h
  try simp only [Bool.cond_eq_ite] at h
  repeat' (split at h)
  all_goals first | (cases h; rfl) | cases h
theorem mv_ali_h  {pc : Nat} {ls st : List mv_V} {M : mv_M} {q : Nat × List mv_V × List mv_V × mv_M} (h : mv_ali  pc ls st M = some q) : q.2.2.2 = M := by
  unfold mv_ali at h
  try simp only [Bool.cond_eq_ite] at h
  repeat' (split at h)
  all_goals first | (cases h; rfl) | cases h
theorem mv_alb_h  {pc : Nat} {ls st : List mv_V} {M : mv_M} {q : Nat × List mv_V × List mv_V × mv_M} (h : mv_alb  pc ls st M = some q) : q.2.2.2 = M := by
  unfold mv_alb at h
  try simp only [Bool.cond_eq_ite] at h
  repeat' (split at h)
  all_goals first | (cases h; rfl) | cases h
theorem mv_all_h  {pc : Nat} {ls st : List mv_V} {M : mv_M} {q : Nat × List mv_V × List mv_V × mv_M} (h : mv_all  pc ls st M = some q) : q.2.2.2 = M := by
  unfold mv_all at h
  try simp only [Bool.cond_eq_ite] at h
  repeat' (split at h)
  all_goals first | (cases h; rfl) | cases h
theorem mv_ala_h  {pc : Nat} {ls st : List mv_V} {M : mv_M} {q : Nat × List mv_V × List mv_V × mv_M} (h : mv_ala  pc ls st M = some q) : q.2.2.2 = M := by
  unfold mv_ala at h
  try simp only [Bool.cond_eq_ite] at h
  repeat' (split at h)
  all_goals first | (cases h; rfl) | cases h
theorem mv_aln_h  {pc : Nat} {ls st : List mv_V} {M : mv_M} {q : Nat × List mv_V × List mv_V × mv_M} (h : mv_aln  pc ls st M = some q) : q.2.2.2 = M := by
  unfold mv_aln at h
  try simp only [Bool.cond_eq_ite] at h
  repeat' (split at h)
  all_goals first | (cases h; rfl) | cases h
theorem mv_cm2_h {c : Jvm.ClassFile.Cond} {t e : Nat} {ls st : List mv_V} {M : mv_M} {q : Nat × List mv_V × List mv_V × mv_M} (h : mv_cm2 c t e ls st M = some q) : q.2.2.2 = M := by
  unfold mv_cm2 at h
  try simp only [Bool.cond_eq_ite] at h
  repeat' (split at h)
  all_goals first | (cases h; rfl) | cases h
theorem mv_cm1_h {c : Jvm.ClassFile.Cond} {t e : Nat} {ls st : List mv_V} {M : mv_M} {q : Nat × List mv_V × List mv_V × mv_M} (h : mv_cm1 c t e ls st M = some q) : q.2.2.2 = M := by
  unfold mv_cm1 at h
  try simp only [Bool.cond_eq_ite] at h
  repeat' (split at h)
  all_goals first | (cases h; rfl) | cases h
theorem mv_nul_h {t e : Nat} {ls st : List mv_V} {M : mv_M} {q : Nat × List mv_V × List mv_V × mv_M} (h : mv_nul t e ls st M = some q) : q.2.2.2 = M := by
  unfold mv_nul at h
  try simp only [Bool.cond_eq_ite] at h
  repeat' (split at h)
  all_goals first | (cases h; rfl) | cases h
theorem mv_swi_h {w : List (Int × Nat)} {e : Nat} {ls st : List mv_V} {M : mv_M} {q : Nat × List mv_V × List mv_V × mv_M} (h : mv_swi w e ls st M = some q) : q.2.2.2 = M := by
  unfold mv_swi at h
  try simp only [Bool.cond_eq_ite] at h
  repeat' (split at h)
  all_goals first | (cases h; rfl) | cases h
theorem mv_asi_h {pc : Nat} {ls st : List mv_V} {M : mv_M} {q : Nat × List mv_V × List mv_V × mv_M} (h : mv_asi pc ls st M = some q) : mv_hi M q.2.2.2 := by
  unfold mv_asi at h
  split at h
  · split at h
    · rename_i e
      cases h
      exact mv_hi.st (mv_ak_in (Or.inl e)).2.2
    · cases h
  · cases h
theorem mv_asl_h {pc : Nat} {ls st : List mv_V} {M : mv_M} {q : Nat × List mv_V × List mv_V × mv_M} (h : mv_asl pc ls st M = some q) : mv_hi M q.2.2.2 := by
  unfold mv_asl at h
  split at h
  · split at h
    · rename_i e
      cases h
      exact mv_hi.st (mv_ak_in (Or.inr (Or.inl e))).2.2
    · cases h
  · cases h
theorem mv_cpy_h {pc : Nat} {ls st : List mv_V} {M : mv_M} {q : Nat × List mv_V × List mv_V × mv_M} (h : mv_cpy pc ls st M = some q) : mv_hi M q.2.2.2 := by
  unfold mv_cpy at h
  split at h
  · split at h
    · rename_i e
      simp only [Bool.cond_eq_ite] at h
      split at h
      · cases h
        exact mv_hi.st (mv_ak_in (Or.inl (by assumption))).2.2
      · cases h
    · cases h
  · cases h
theorem mv_pf_h {a b pc : Nat} {ls st : List mv_V} {M : mv_M} {q : Nat × List mv_V × List mv_V × mv_M} (h : mv_pf a b pc ls st M = some q) : mv_hi M q.2.2.2 := by
  unfold mv_pf at h
  try simp only [Bool.cond_eq_ite] at h
  split at h
  · split at h
    · rename_i hc
      have hc := Nat.eq_of_beq_eq_true hc
      split at h
      · rename_i e
        cases h
        exact mv_hi.st (mv_cls_in hc (mv_fk_7 (Or.inl e))).2.2
      · rename_i e
        cases h
        exact mv_hi.st (mv_cls_in hc (mv_fk_7 (Or.inr (Or.inr e)))).2.2
      · cases h
    · cases h
  · split at h
    · rename_i hc
      have hc := Nat.eq_of_beq_eq_true (Bool.and_eq_true _ _ ▸ hc).1
      split at h
      · rename_i e
        cases h
        exact mv_hi.st (mv_cls_in hc (mv_fk_7 (Or.inr (Or.inl e)))).2.2
      · cases h
    · cases h
  · cases h
theorem mv_ivs_h {a pc : Nat} {ls st : List mv_V} {M : mv_M} {q : Nat × List mv_V × List mv_V × mv_M} (h : mv_ivs a pc ls st M = some q) : mv_hi M q.2.2.2 := by
  unfold mv_ivs at h
  try simp only [Bool.cond_eq_ite] at h
  split at h
  · exact mv_cpy_h h
  · split at h
    · exact mv_hi.of (mv_bin_h h)
    · cases h
  · split at h
    · exact mv_hi.of (mv_bin_h h)
    · cases h
  · split at h
    · exact mv_hi.of (mv_bnl_h h)
    · cases h
  · cases h
theorem mv_step_h {i : Instr} {len a b : Nat} {z : Int} {pc : Nat} {ls st : List mv_V} {M : mv_M} {q : Nat × List mv_V × List mv_V × mv_M} (h : mv_step i len a b z pc ls st M = some q) : mv_hi M q.2.2.2 := by
  unfold mv_step at h
  try simp only [Bool.cond_eq_ite] at h
  split at h
  all_goals first
    | exact mv_pf_h h
    | exact mv_asi_h h
    | exact mv_asl_h h
    | exact mv_ivs_h h
    | exact mv_hi.of (mv_bin_h h)
    | exact mv_hi.of (mv_una_h h)
    | exact mv_hi.of (mv_bnl_h h)
    | exact mv_hi.of (mv_ldi_h h)
    | exact mv_hi.of (mv_ldl_h h)
    | exact mv_hi.of (mv_lda_h h)
    | exact mv_hi.of (mv_sti_h h)
    | exact mv_hi.of (mv_stl_h h)
    | exact mv_hi.of (mv_sta_h h)
    | exact mv_hi.of (mv_inc_h h)
    | exact mv_hi.of (mv_gf_h h)
    | exact mv_hi.of (mv_ali_h h)
    | exact mv_hi.of (mv_alb_h h)
    | exact mv_hi.of (mv_all_h h)
    | exact mv_hi.of (mv_ala_h h)
    | exact mv_hi.of (mv_aln_h h)
    | exact mv_hi.of (mv_cm2_h h)
    | exact mv_hi.of (mv_cm1_h h)
    | exact mv_hi.of (mv_nul_h h)
    | exact mv_hi.of (mv_swi_h h)
    | (cases h; exact mv_hi.of rfl)
    | (cases h; done)
    | ((repeat' (split at h)) <;> first | (cases h; exact mv_hi.of rfl) | cases h)
theorem mv_out_h {a : Nat} {st : List mv_V} {M : mv_M} {q : mv_V × mv_M} (h : mv_out a st M = some q) : q.2 = M := by
  unfold mv_out at h
  repeat' (split at h)
  all_goals first | (cases h; rfl) | cases h
theorem mv_x_h : ∀ (n d y pc : Nat) (ls st : List mv_V) (M : mv_M) (q : mv_V × mv_M), mv_x n d y pc ls st M = some q → mv_hi M q.2
  | 0, _, _, _, _, _, _, _, h => by cases h
  | n + 1, d, y, pc, ls, st, M, q, h => by
    have ih := mv_x_h n
    rw [mv_x_succ] at h
    split at h
    · cases h
    · simp only [Bool.cond_eq_ite] at h
      split at h
      · split at h
        · cases h
        · rename_i hs
          have h1 := mv_step_h hs
          have h2 := ih _ _ _ _ _ _ _ h
          exact fun j hj => (h2 j hj).trans (h1 j hj)
      · split at h
        · exact mv_hi.of (mv_out_h h)
        · split at h
          · cases h
          · split at h
            · split at h
              · cases h
              · rename_i hs
                have h1 := ih _ _ _ _ _ _ _ hs
                have h2 := ih _ _ _ _ _ _ _ h
                exact fun j hj => (h2 j hj).trans (h1 j hj)
            · cases h
theorem mv_Ru.hi {d y pc : Nat} {ls st : List mv_V} {M : mv_M} {v : mv_V} {P : mv_M → Prop} (h : mv_Ru d y pc ls st M v P) : mv_Ru d y pc ls st M v (fun M1 => P M1 ∧ mv_hi M M1) := by
  obtain ⟨M1, ⟨n, hn⟩, hp⟩ := h
  exact ⟨M1, ⟨n, hn⟩, hp, mv_x_h n d y pc ls st M _ hn⟩
