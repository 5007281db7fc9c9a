/-! uncle: the ward's part -/
def sp_unc (V : mv_M) (u : Nat) (km v : Int) : mv_M := mv_st (mv_st (mv_st (mv_st V 3 (sp_pd (V 3) u v)) 4 (mv_up (V 4) u (km.tdiv 10))) 5 (mv_up (V 5) u (km.tmod 10))) 0 (mv_up (V 0) 9 ((u : Int) + 1))
theorem sp_up_lt {f g : Nat → Int} {u j : Nat} {z : Int} (h : ∀ i, i < u → f i = g i) (hj : j < u + 1) : mv_up f u z j = mv_up g u z j := by
  by_cases q : j = u
  · rw [q, mv_up_s, mv_up_s]
  · rw [mv_up_n _ _ q, mv_up_n _ _ q]
    exact h j (by omega)
theorem sp_c_unc {w : Nat} {M M2 V : mv_M} {u : Nat} {km v : Int} (h : sp_c w M V) (hu : V 0 9 = (u : Int)) (r0 : M2 w = mv_up (M w) 9 ((u : Int) + 1)) (r1 : M2 (w + 1) = M (w + 1)) (r2 : M2 (w + 2) = M (w + 2))
    (r3 : M2 (w + 3) = sp_pd (M (w + 3)) u v) (r4 : M2 (w + 4) = mv_up (M (w + 4)) u (km.tdiv 10)) (r5 : M2 (w + 5) = mv_up (M (w + 5)) u (km.tmod 10)) : sp_c w M2 (sp_unc V u km v) := by
  unfold sp_c
  rw [r0, r1, r2, r3, r4, r5]
  exact ⟨⟨h.1.1, rfl, h.1.2.2.1, h.1.2.2.2⟩, h.2.1, h.2.2.1, fun j hj => sp_pd_c (h.2.2.2.1 j hj),
    fun j hj => sp_up_lt (fun i hi => h.2.2.2.2.1 i (by omega)) (by have hj2 : (j : Int) < (u : Int) + 1 := hj; omega), fun j hj => sp_up_lt (fun i hi => h.2.2.2.2.2 i (by omega)) (by have hj2 : (j : Int) < (u : Int) + 1 := hj; omega)⟩
theorem sp_m_unc {M M2 V : mv_M} {u : Nat} {km v : Int} (h : sp_m M V) (hu : V 0 9 = (u : Int)) (r0 : M2 100 = mv_up (M 100) 1 ((u : Int) + 1)) (r1 : M2 104 = M 104) (r2 : M2 106 = M 106)
    (r3 : M2 105 = sp_pd (M 105) u v) (r4 : M2 102 = mv_up (M 102) u (km.tdiv 10)) (r5 : M2 103 = mv_up (M 103) u (km.tmod 10)) : sp_m M2 (sp_unc V u km v) := by
  unfold sp_m
  rw [r0, r1, r2, r3, r4, r5]
  exact ⟨⟨h.1.1, rfl, h.1.2.2.1, h.1.2.2.2⟩, h.2.1, h.2.2.1, fun j hj => sp_pd_c (h.2.2.2.1 j hj),
    fun j hj => sp_up_lt (fun i hi => h.2.2.2.2.1 i (by omega)) (by have hj2 : (j : Int) < (u : Int) + 1 := hj; omega), fun j hj => sp_up_lt (fun i hi => h.2.2.2.2.2 i (by omega)) (by have hj2 : (j : Int) < (u : Int) + 1 := hj; omega)⟩
theorem sp_ok_unc {V : mv_M} {u : Nat} {km v : Int} (h : sp_ok V) (hu : V 0 9 = (u : Int)) (h6 : u < 6) (hv : 0 ≤ v) (hk0 : 0 ≤ km) (hk : km < 60) : sp_ok (sp_unc V u km v) := by
  have hd : 0 ≤ km.tdiv 10 ∧ km.tdiv 10 ≤ 5 := by rw [Int.tdiv_eq_ediv_of_nonneg hk0]; omega
  have hm := sp_tm hk0
  refine ⟨h.1, ⟨by show 0 ≤ (u : Int) + 1; omega, by show (u : Int) + 1 ≤ 6; omega⟩, h.2.2.1, h.2.2.2.1, h.2.2.2.2.1, fun j hj => ?_, fun j hj => sp_pd_b hv (h.2.2.2.2.2.2.1 j hj), fun j hj => ?_, fun j hj => ?_⟩
  · have h2 := sp_ok_2 h j hj
    show -1 ≤ V 2 j ∧ V 2 j < (u : Int) + 1
    omega
  · have hj2 : (j : Int) < (u : Int) + 1 := hj
    show 0 ≤ mv_up (V 4) u (km.tdiv 10) j ∧ mv_up (V 4) u (km.tdiv 10) j ≤ 5
    by_cases q : j = u
    · rw [q, mv_up_s]; exact hd
    · rw [mv_up_n _ _ q]; exact sp_ok_4 h j (by omega)
  · have hj2 : (j : Int) < (u : Int) + 1 := hj
    show 0 ≤ mv_up (V 5) u (km.tmod 10) j ∧ mv_up (V 5) u (km.tmod 10) j ≤ 9
    by_cases q : j = u
    · rw [q, mv_up_s]; exact hm
    · rw [mv_up_n _ _ q]; exact sp_ok_5 h j (by omega)
