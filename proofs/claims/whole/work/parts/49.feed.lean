/-! feed -/
theorem sp_app {M : mv_M} {t : Nat} {b : Int} (h : M 28 1 = (t : Int)) (ht : t < 160) : mv_Ru 0 6 0 [mv_R 28, mv_I b] [] M mv_U (fun M1 => M1 = mv_st (mv_st M 29 (mv_up (M 29) t b)) 28 (mv_up (M 28) 1 ((t + 1 : Nat) : Int))) := by
  refine mv_go' 2 (pc' := 4) (ls' := [mv_R 28, mv_I b]) (st' := [mv_I (M 28 1)]) (M1 := M) rfl ?_
  rw [show M 28 1 = (t : Int) from by exact h]
  refine mv_go' 2 (pc' := if (t : Int) < 160 then 10 else 30) (ls' := [mv_R 28, mv_I b]) (st' := []) (M1 := M) rfl ?_
  refine mv_tt' (by omega) ?_
  refine mv_go' 4 (pc' := 18) (ls' := [mv_R 28, mv_I b]) (st' := [mv_I (M 28 1), mv_R 29]) (M1 := M) rfl ?_
  rw [show M 28 1 = (t : Int) from by exact h]
  refine mv_go' 2 (pc' := if 0 ≤ (t : Int) ∧ (t : Int) < 160 then 20 else mv_bad) (ls' := [mv_R 28, mv_I b]) (st' := []) (M1 := (mv_st M 29 (mv_up (M 29) t b))) rfl ?_
  refine mv_tt' (by omega) ?_
  refine mv_go' 3 (pc' := 25) (ls' := [mv_R 28, mv_I b]) (st' := [mv_I (M 28 1), mv_R 28]) (M1 := (mv_st M 29 (mv_up (M 29) t b))) rfl ?_
  rw [show M 28 1 = (t : Int) from by exact h]
  refine mv_go' 2 (pc' := 27) (ls' := [mv_R 28, mv_I b]) (st' := [mv_I (mv_w ((t : Int) + 1)), mv_R 28]) (M1 := (mv_st M 29 (mv_up (M 29) t b))) rfl ?_
  refine mv_go' 1 (pc' := 30) (ls' := [mv_R 28, mv_I b]) (st' := []) (M1 := (mv_st (mv_st M 29 (mv_up (M 29) t b)) 28 (mv_up (M 28) 1 (mv_w ((t : Int) + 1))))) rfl ?_
  rw [show mv_w ((t : Int) + 1) = ((t + 1 : Nat) : Int) from by unfold mv_w; omega]
  exact mv_ret (fun n => rfl) (rfl)
theorem sp_ub {f g : Nat → Int} {t : Nat} {b : Int} (h : ∀ j, j < t → f j = g j ∧ 0 ≤ f j ∧ f j ≤ 255) (hb : 0 ≤ b ∧ b ≤ 255) : ∀ j, j < t + 1 → mv_up f t b j = mv_up g t b j ∧ 0 ≤ mv_up f t b j ∧ mv_up f t b j ≤ 255 := by
  intro j hj
  by_cases q : j = t
  · rw [q, mv_up_s, mv_up_s]; exact ⟨rfl, hb⟩
  · rw [mv_up_n _ _ q, mv_up_n _ _ q]; exact h j (by omega)
theorem sp_fd_end {V : mv_M} {P : Nat → Nat → List Int} {n : Int} {B : mv_M} {K : Int} {t t2 : Nat} {M Mf : mv_M} (h : sp_R V P n B K t M) (e : ∀ i, i ≠ 28 → i ≠ 29 → i ≠ 100 → i ≠ 108 → Mf i = M i) (e28 : Mf 28 1 = (t2 : Int)) (e9 : Mf 100 9 = (t2 : Int)) (h160 : t2 ≤ 160)
    (e100 : Mf 100 0 = M 100 0 ∧ Mf 100 1 = M 100 1 ∧ Mf 100 7 = M 100 7 ∧ Mf 100 12 = M 100 12 ∧ Mf 100 13 = M 100 13 ∧ Mf 100 14 = M 100 14) (hj : ∀ j, j < t2 → Mf 29 j = Mf 108 j ∧ 0 ≤ Mf 29 j ∧ Mf 29 j ≤ 255) : sp_Inv Mf := by
  obtain ⟨⟨hc, hm, hok⟩, hn, ⟨hct, hmt, hn0, hn1⟩, hi, ht, hs, hw⟩ := h
  obtain ⟨q0, q1, q7, q12, q13, q14⟩ := e100
  refine ⟨V, P, n, B, K, t2, ⟨?_, ?_, hok⟩, hn, ⟨?_, ?_, ?_, ?_⟩, ?_, ⟨e28, e9, h160, hj⟩, ?_, ?_⟩
  · unfold sp_c
    rw [e 30 (by decide) (by decide) (by decide) (by decide), e (30 + 1) (by decide) (by decide) (by decide) (by decide), e (30 + 2) (by decide) (by decide) (by decide) (by decide), e (30 + 3) (by decide) (by decide) (by decide) (by decide), e (30 + 4) (by decide) (by decide) (by decide) (by decide), e (30 + 5) (by decide) (by decide) (by decide) (by decide)]
    exact hc
  · unfold sp_m
    rw [q0, q1, q7, q13, e 102 (by decide) (by decide) (by decide) (by decide), e 103 (by decide) (by decide) (by decide) (by decide), e 104 (by decide) (by decide) (by decide) (by decide), e 105 (by decide) (by decide) (by decide) (by decide), e 106 (by decide) (by decide) (by decide) (by decide)]
    exact hm
  · intro t ht
    unfold sp_ct
    rw [e (10 + 3 * t + 1) (by omega) (by omega) (by omega) (by omega), e (10 + 3 * t + 2) (by omega) (by omega) (by omega) (by omega)]
    exact hct t ht
  · intro t ht
    unfold sp_mt
    rw [e 110 (by decide) (by decide) (by decide) (by decide), e 111 (by decide) (by decide) (by decide) (by decide)]
    exact hmt t ht
  · rw [e 0 (by decide) (by decide) (by decide) (by decide)]; exact hn0
  · rw [q12]; exact hn1
  · unfold sp_im sp_c sp_mi
    rw [e 0 (by decide) (by decide) (by decide) (by decide), q14, e 40 (by decide) (by decide) (by decide) (by decide), e (40 + 1) (by decide) (by decide) (by decide) (by decide), e (40 + 2) (by decide) (by decide) (by decide) (by decide), e (40 + 3) (by decide) (by decide) (by decide) (by decide), e (40 + 4) (by decide) (by decide) (by decide) (by decide), e (40 + 5) (by decide) (by decide) (by decide) (by decide), e 115 (by decide) (by decide) (by decide) (by decide), e 116 (by decide) (by decide) (by decide) (by decide)]
    exact hi
  · intro s hs4
    rw [e (71 + 2 * s) (by omega) (by omega) (by omega) (by omega), e (72 + 2 * s) (by omega) (by omega) (by omega) (by omega), e 117 (by decide) (by decide) (by decide) (by decide), e 118 (by decide) (by decide) (by decide) (by decide), e 119 (by decide) (by decide) (by decide) (by decide)]
    exact hs s hs4
  · rw [e 125 (by decide) (by decide) (by decide) (by decide)]; exact hw
theorem sp_cby_t {M : mv_M} {b : Int} (h : 0 ≤ b ∧ b ≤ 255) : mv_Ru 0 104 0 [mv_I b] [] M (mv_I 1) (fun M1 => M1 = M) := by
  refine mv_go' 2 (pc' := if b < 0 then 15 else 4) (ls' := [mv_I b]) (st' := []) (M1 := M) rfl ?_
  refine mv_ff' (by omega) ?_
  refine mv_go' 3 (pc' := if 255 < b then 15 else 11) (ls' := [mv_I b]) (st' := []) (M1 := M) rfl ?_
  refine mv_ff' (by omega) ?_
  refine mv_go' 2 (pc' := 16) (ls' := [mv_I b]) (st' := [mv_I 1]) (M1 := M) rfl ?_
  exact mv_ret (fun n => rfl) rfl
theorem sp_cby_f {M : mv_M} {b : Int} (h : ¬ (0 ≤ b ∧ b ≤ 255)) : mv_Ru 0 104 0 [mv_I b] [] M (mv_I 0) (fun M1 => M1 = M) := by
  refine mv_go' 2 (pc' := if b < 0 then 15 else 4) (ls' := [mv_I b]) (st' := []) (M1 := M) rfl ?_
  refine mv_sp' (fun ha1 => ?_) (fun ha1 => ?_)
  · refine mv_go' 1 (pc' := 16) (ls' := [mv_I b]) (st' := [mv_I 0]) (M1 := M) rfl ?_
    exact mv_ret (fun n => rfl) rfl
  · refine mv_go' 3 (pc' := if 255 < b then 15 else 11) (ls' := [mv_I b]) (st' := []) (M1 := M) rfl ?_
    refine mv_tt' (by omega) ?_
    refine mv_go' 1 (pc' := 16) (ls' := [mv_I b]) (st' := [mv_I 0]) (M1 := M) rfl ?_
    exact mv_ret (fun n => rfl) rfl
theorem sp_mby_t {M : mv_M} {b : Int} (h : 0 ≤ b ∧ b ≤ 255) : mv_Ru 1 124 0 [mv_I b] [] M (mv_I 1) (fun M1 => M1 = M) := by
  refine mv_go' 3 (pc' := 5) (ls' := [mv_I b]) (st' := [mv_I 255, mv_I 0, mv_I b]) (M1 := M) rfl ?_
  have ha2 : (0 : Int) ≤ b ∧ b ≤ (255 : Int) := by omega
  refine mv_callP (st2 := [mv_I 1]) rfl (Or.inr rfl) rfl rfl rfl (sp_min_t ha2) (by first | decide | omega) ?_
  exact mv_ret (fun n => rfl) rfl
theorem sp_mby_f {M : mv_M} {b : Int} (h : ¬ (0 ≤ b ∧ b ≤ 255)) : mv_Ru 1 124 0 [mv_I b] [] M (mv_I 0) (fun M1 => M1 = M) := by
  refine mv_go' 3 (pc' := 5) (ls' := [mv_I b]) (st' := [mv_I 255, mv_I 0, mv_I b]) (M1 := M) rfl ?_
  have ha3 : ¬ ((0 : Int) ≤ b ∧ b ≤ (255 : Int)) := by omega
  refine mv_callP (st2 := [mv_I 0]) rfl (Or.inr rfl) rfl rfl rfl (sp_min_f ha3) (by first | decide | omega) ?_
  exact mv_ret (fun n => rfl) rfl
theorem sp_k2n (n a b c d e : Int) (hn : ¬ (1 ≤ n ∧ n ≤ 5)) : sp_call 63 125 [mv_I n, mv_I a, mv_I b, mv_I c, mv_I d, mv_I e] [mv_I n, mv_I a, mv_I b, mv_I c, mv_I d, mv_I e] := by
  refine sp_mkW (lc := [mv_R 0, mv_I n, mv_I a, mv_I b, mv_I c, mv_I d, mv_I e, mv_U]) (lm := [mv_R 100, mv_I n, mv_I a, mv_I b, mv_I c, mv_I d, mv_I e, mv_U]) rfl rfl (fun M hI => ?_)
  refine mv_goW 3 (pc' := if n < 1 then 48 else 5) (ls' := [mv_R 0, mv_I n, mv_I a, mv_I b, mv_I c, mv_I d, mv_I e, mv_U]) (st' := []) (M1 := M) rfl ?_
  refine mv_spW (fun ha4 => ?_) (fun ha4 => ?_)
  · refine mv_goW 1 (pc' := 50) (ls' := [mv_R 0, mv_I n, mv_I a, mv_I b, mv_I c, mv_I d, mv_I e, mv_U]) (st' := [mv_I (-2)]) (M1 := M) rfl ?_
    refine mv_retW (fun n => rfl) ⟨_, rfl, ?_⟩
    refine mv_goW 3 (pc' := 3) (ls' := [mv_R 100, mv_I n, mv_I a, mv_I b, mv_I c, mv_I d, mv_I e, mv_U]) (st' := [mv_I 5, mv_I 1, mv_I n]) (M1 := M) rfl ?_
    have ha5 : ¬ ((1 : Int) ≤ n ∧ n ≤ (5 : Int)) := by omega
    refine mv_callPW (st2 := [mv_I 0]) rfl (Or.inr rfl) rfl rfl rfl (sp_min_f ha5) (by first | decide | omega) ?_
    refine mv_goW 1 (pc' := if 0 = 0 then 47 else 9) (ls' := [mv_R 100, mv_I n, mv_I a, mv_I b, mv_I c, mv_I d, mv_I e, mv_U]) (st' := []) (M1 := M) rfl ?_
    refine mv_ttW (by decide) ?_
    refine mv_goW 1 (pc' := 49) (ls' := [mv_R 100, mv_I n, mv_I a, mv_I b, mv_I c, mv_I d, mv_I e, mv_U]) (st' := [mv_I (-2)]) (M1 := M) rfl ?_
    exact mv_retW (fun n => rfl) ⟨congrArg mv_I (by first | with_reducible rfl | omega), hI⟩
  · refine mv_goW 3 (pc' := if 5 < n then 48 else 10) (ls' := [mv_R 0, mv_I n, mv_I a, mv_I b, mv_I c, mv_I d, mv_I e, mv_U]) (st' := []) (M1 := M) rfl ?_
    refine mv_ttW (by omega) ?_
    refine mv_goW 1 (pc' := 50) (ls' := [mv_R 0, mv_I n, mv_I a, mv_I b, mv_I c, mv_I d, mv_I e, mv_U]) (st' := [mv_I (-2)]) (M1 := M) rfl ?_
    refine mv_retW (fun n => rfl) ⟨_, rfl, ?_⟩
    refine mv_goW 3 (pc' := 3) (ls' := [mv_R 100, mv_I n, mv_I a, mv_I b, mv_I c, mv_I d, mv_I e, mv_U]) (st' := [mv_I 5, mv_I 1, mv_I n]) (M1 := M) rfl ?_
    have ha6 : ¬ ((1 : Int) ≤ n ∧ n ≤ (5 : Int)) := by omega
    refine mv_callPW (st2 := [mv_I 0]) rfl (Or.inr rfl) rfl rfl rfl (sp_min_f ha6) (by first | decide | omega) ?_
    refine mv_goW 1 (pc' := if 0 = 0 then 47 else 9) (ls' := [mv_R 100, mv_I n, mv_I a, mv_I b, mv_I c, mv_I d, mv_I e, mv_U]) (st' := []) (M1 := M) rfl ?_
    refine mv_ttW (by decide) ?_
    refine mv_goW 1 (pc' := 49) (ls' := [mv_R 100, mv_I n, mv_I a, mv_I b, mv_I c, mv_I d, mv_I e, mv_U]) (st' := [mv_I (-2)]) (M1 := M) rfl ?_
    exact mv_retW (fun n => rfl) ⟨congrArg mv_I (by first | with_reducible rfl | omega), hI⟩
theorem sp_k2_1 (a b c d e : Int) : sp_call 63 125 [mv_I 1, mv_I a, mv_I b, mv_I c, mv_I d, mv_I e] [mv_I 1, mv_I a, mv_I b, mv_I c, mv_I d, mv_I e] := by
  refine sp_mkW (lc := [mv_R 0, mv_I 1, mv_I a, mv_I b, mv_I c, mv_I d, mv_I e, mv_U]) (lm := [mv_R 100, mv_I 1, mv_I a, mv_I b, mv_I c, mv_I d, mv_I e, mv_U]) rfl rfl (fun M hI => ?_)
  have hI2 := hI
  obtain ⟨V, P, n, B, K, t, h⟩ := hI2
  have h' := h
  obtain ⟨_, _, _, _, htp, _⟩ := h'
  have ht28 := htp.1
  have ht160 := htp.2.2.1
  refine mv_goW 3 (pc' := if 1 < 1 then 48 else 5) (ls' := [mv_R 0, mv_I 1, mv_I a, mv_I b, mv_I c, mv_I d, mv_I e, mv_U]) (st' := []) (M1 := M) rfl ?_
  refine mv_ffW (by decide) ?_
  refine mv_goW 3 (pc' := if 5 < 1 then 48 else 10) (ls' := [mv_R 0, mv_I 1, mv_I a, mv_I b, mv_I c, mv_I d, mv_I e, mv_U]) (st' := []) (M1 := M) rfl ?_
  refine mv_ffW (by decide) ?_
  refine mv_goW 1 (pc' := 11) (ls' := [mv_R 0, mv_I 1, mv_I a, mv_I b, mv_I c, mv_I d, mv_I e, mv_U]) (st' := [mv_I a]) (M1 := M) rfl ?_
  by_cases ha7 : 0 ≤ a ∧ a ≤ 255
  · refine mv_callPW (st2 := [mv_I 1]) rfl (Or.inr rfl) rfl rfl rfl (sp_cby_t ha7) (by first | decide | omega) ?_
    refine mv_goW 1 (pc' := if 1 = 0 then 48 else 17) (ls' := [mv_R 0, mv_I 1, mv_I a, mv_I b, mv_I c, mv_I d, mv_I e, mv_U]) (st' := []) (M1 := M) rfl ?_
    refine mv_ffW (by decide) ?_
    refine mv_goW 1 (pc' := 18) (ls' := [mv_R 0, mv_I 1, mv_I a, mv_I b, mv_I c, mv_I d, mv_I e, mv_U]) (st' := [mv_I b]) (M1 := M) rfl ?_
    by_cases ha8 : 0 ≤ b ∧ b ≤ 255
    · refine mv_callPW (st2 := [mv_I 1]) rfl (Or.inr rfl) rfl rfl rfl (sp_cby_t ha8) (by first | decide | omega) ?_
      refine mv_goW 1 (pc' := if 1 = 0 then 48 else 24) (ls' := [mv_R 0, mv_I 1, mv_I a, mv_I b, mv_I c, mv_I d, mv_I e, mv_U]) (st' := []) (M1 := M) rfl ?_
      refine mv_ffW (by decide) ?_
      refine mv_goW 1 (pc' := 26) (ls' := [mv_R 0, mv_I 1, mv_I a, mv_I b, mv_I c, mv_I d, mv_I e, mv_U]) (st' := [mv_I c]) (M1 := M) rfl ?_
      by_cases ha9 : 0 ≤ c ∧ c ≤ 255
      · refine mv_callPW (st2 := [mv_I 1]) rfl (Or.inr rfl) rfl rfl rfl (sp_cby_t ha9) (by first | decide | omega) ?_
        refine mv_goW 1 (pc' := if 1 = 0 then 48 else 32) (ls' := [mv_R 0, mv_I 1, mv_I a, mv_I b, mv_I c, mv_I d, mv_I e, mv_U]) (st' := []) (M1 := M) rfl ?_
        refine mv_ffW (by decide) ?_
        refine mv_goW 1 (pc' := 34) (ls' := [mv_R 0, mv_I 1, mv_I a, mv_I b, mv_I c, mv_I d, mv_I e, mv_U]) (st' := [mv_I d]) (M1 := M) rfl ?_
        by_cases ha10 : 0 ≤ d ∧ d ≤ 255
        · refine mv_callPW (st2 := [mv_I 1]) rfl (Or.inr rfl) rfl rfl rfl (sp_cby_t ha10) (by first | decide | omega) ?_
          refine mv_goW 1 (pc' := if 1 = 0 then 48 else 40) (ls' := [mv_R 0, mv_I 1, mv_I a, mv_I b, mv_I c, mv_I d, mv_I e, mv_U]) (st' := []) (M1 := M) rfl ?_
          refine mv_ffW (by decide) ?_
          refine mv_goW 1 (pc' := 42) (ls' := [mv_R 0, mv_I 1, mv_I a, mv_I b, mv_I c, mv_I d, mv_I e, mv_U]) (st' := [mv_I e]) (M1 := M) rfl ?_
          by_cases ha11 : 0 ≤ e ∧ e ≤ 255
          · refine mv_callPW (st2 := [mv_I 1]) rfl (Or.inr rfl) rfl rfl rfl (sp_cby_t ha11) (by first | decide | omega) ?_
            refine mv_goW 1 (pc' := if 1 = 0 then 48 else 51) (ls' := [mv_R 0, mv_I 1, mv_I a, mv_I b, mv_I c, mv_I d, mv_I e, mv_U]) (st' := []) (M1 := M) rfl ?_
            refine mv_ffW (by decide) ?_
            refine mv_goW 3 (pc' := 58) (ls' := [mv_R 0, mv_I 1, mv_I a, mv_I b, mv_I c, mv_I d, mv_I e, mv_U]) (st' := [mv_I (M 28 1)]) (M1 := M) rfl ?_
            rw [show M 28 1 = (t : Int) from by exact htp.1]
            refine mv_goW 4 (pc' := if 160 < (mv_w ((t : Int) + 1)) then 66 else 69) (ls' := [mv_R 0, mv_I 1, mv_I a, mv_I b, mv_I c, mv_I d, mv_I e, mv_U]) (st' := []) (M1 := M) rfl ?_
            rw [show mv_w ((t : Int) + 1) = (t : Int) + 1 from mv_w_id (by omega) (by omega)]
            refine mv_spW (fun ha12 => ?_) (fun ha12 => ?_)
            · refine mv_goW 1 (pc' := 68) (ls' := [mv_R 0, mv_I 1, mv_I a, mv_I b, mv_I c, mv_I d, mv_I e, mv_U]) (st' := [mv_I (-4)]) (M1 := M) rfl ?_
              refine mv_retW (fun n => rfl) ⟨_, rfl, ?_⟩
              refine mv_goW 3 (pc' := 3) (ls' := [mv_R 100, mv_I 1, mv_I a, mv_I b, mv_I c, mv_I d, mv_I e, mv_U]) (st' := [mv_I 5, mv_I 1, mv_I 1]) (M1 := M) rfl ?_
              have ha13 : (1 : Int) ≤ (1 : Int) ∧ (1 : Int) ≤ (5 : Int) := by omega
              refine mv_callPW (st2 := [mv_I 1]) rfl (Or.inr rfl) rfl rfl rfl (sp_min_t ha13) (by first | decide | omega) ?_
              refine mv_goW 1 (pc' := if 1 = 0 then 47 else 9) (ls' := [mv_R 100, mv_I 1, mv_I a, mv_I b, mv_I c, mv_I d, mv_I e, mv_U]) (st' := []) (M1 := M) rfl ?_
              refine mv_ffW (by decide) ?_
              refine mv_goW 1 (pc' := 10) (ls' := [mv_R 100, mv_I 1, mv_I a, mv_I b, mv_I c, mv_I d, mv_I e, mv_U]) (st' := [mv_I a]) (M1 := M) rfl ?_
              have ha14 : 0 ≤ a ∧ a ≤ 255 := by omega
              refine mv_callPW (st2 := [mv_I 1]) rfl (Or.inr rfl) rfl rfl rfl (sp_mby_t ha14) (by first | decide | omega) ?_
              refine mv_goW 1 (pc' := if 1 = 0 then 47 else 16) (ls' := [mv_R 100, mv_I 1, mv_I a, mv_I b, mv_I c, mv_I d, mv_I e, mv_U]) (st' := []) (M1 := M) rfl ?_
              refine mv_ffW (by decide) ?_
              refine mv_goW 1 (pc' := 17) (ls' := [mv_R 100, mv_I 1, mv_I a, mv_I b, mv_I c, mv_I d, mv_I e, mv_U]) (st' := [mv_I b]) (M1 := M) rfl ?_
              have ha15 : 0 ≤ b ∧ b ≤ 255 := by omega
              refine mv_callPW (st2 := [mv_I 1]) rfl (Or.inr rfl) rfl rfl rfl (sp_mby_t ha15) (by first | decide | omega) ?_
              refine mv_goW 1 (pc' := if 1 = 0 then 47 else 23) (ls' := [mv_R 100, mv_I 1, mv_I a, mv_I b, mv_I c, mv_I d, mv_I e, mv_U]) (st' := []) (M1 := M) rfl ?_
              refine mv_ffW (by decide) ?_
              refine mv_goW 1 (pc' := 25) (ls' := [mv_R 100, mv_I 1, mv_I a, mv_I b, mv_I c, mv_I d, mv_I e, mv_U]) (st' := [mv_I c]) (M1 := M) rfl ?_
              have ha16 : 0 ≤ c ∧ c ≤ 255 := by omega
              refine mv_callPW (st2 := [mv_I 1]) rfl (Or.inr rfl) rfl rfl rfl (sp_mby_t ha16) (by first | decide | omega) ?_
              refine mv_goW 1 (pc' := if 1 = 0 then 47 else 31) (ls' := [mv_R 100, mv_I 1, mv_I a, mv_I b, mv_I c, mv_I d, mv_I e, mv_U]) (st' := []) (M1 := M) rfl ?_
              refine mv_ffW (by decide) ?_
              refine mv_goW 1 (pc' := 33) (ls' := [mv_R 100, mv_I 1, mv_I a, mv_I b, mv_I c, mv_I d, mv_I e, mv_U]) (st' := [mv_I d]) (M1 := M) rfl ?_
              have ha17 : 0 ≤ d ∧ d ≤ 255 := by omega
              refine mv_callPW (st2 := [mv_I 1]) rfl (Or.inr rfl) rfl rfl rfl (sp_mby_t ha17) (by first | decide | omega) ?_
              refine mv_goW 1 (pc' := if 1 = 0 then 47 else 39) (ls' := [mv_R 100, mv_I 1, mv_I a, mv_I b, mv_I c, mv_I d, mv_I e, mv_U]) (st' := []) (M1 := M) rfl ?_
              refine mv_ffW (by decide) ?_
              refine mv_goW 1 (pc' := 41) (ls' := [mv_R 100, mv_I 1, mv_I a, mv_I b, mv_I c, mv_I d, mv_I e, mv_U]) (st' := [mv_I e]) (M1 := M) rfl ?_
              have ha18 : 0 ≤ e ∧ e ≤ 255 := by omega
              refine mv_callPW (st2 := [mv_I 1]) rfl (Or.inr rfl) rfl rfl rfl (sp_mby_t ha18) (by first | decide | omega) ?_
              refine mv_goW 1 (pc' := if 1 = 0 then 47 else 50) (ls' := [mv_R 100, mv_I 1, mv_I a, mv_I b, mv_I c, mv_I d, mv_I e, mv_U]) (st' := []) (M1 := M) rfl ?_
              refine mv_ffW (by decide) ?_
              refine mv_goW 2 (pc' := 54) (ls' := [mv_R 100, mv_I 1, mv_I a, mv_I b, mv_I c, mv_I d, mv_I e, mv_U]) (st' := [mv_I (M 100 9)]) (M1 := M) rfl ?_
              rw [show M 100 9 = (t : Int) from by exact htp.2.1]
              refine mv_goW 4 (pc' := if 160 < (mv_w ((t : Int) + 1)) then 62 else 65) (ls' := [mv_R 100, mv_I 1, mv_I a, mv_I b, mv_I c, mv_I d, mv_I e, mv_U]) (st' := []) (M1 := M) rfl ?_
              rw [show mv_w ((t : Int) + 1) = (t : Int) + 1 from mv_w_id (by omega) (by omega)]
              refine mv_ttW (by omega) ?_
              refine mv_goW 1 (pc' := 64) (ls' := [mv_R 100, mv_I 1, mv_I a, mv_I b, mv_I c, mv_I d, mv_I e, mv_U]) (st' := [mv_I (-4)]) (M1 := M) rfl ?_
              exact mv_retW (fun n => rfl) ⟨congrArg mv_I (by first | with_reducible rfl | omega), hI⟩
            · refine mv_goW 5 (pc' := if 0 < 1 then 78 else 134) (ls' := [mv_R 0, mv_I 1, mv_I a, mv_I b, mv_I c, mv_I d, mv_I e, mv_I 0]) (st' := []) (M1 := M) rfl ?_
              refine mv_ttW (by decide) ?_
              refine mv_goW 4 (pc' := if 0 = 0 then 87 else 91) (ls' := [mv_R 0, mv_I 1, mv_I a, mv_I b, mv_I c, mv_I d, mv_I e, mv_I 0]) (st' := [mv_R 28]) (M1 := M) rfl ?_
              refine mv_ttW (by decide) ?_
              refine mv_goW 2 (pc' := 125) (ls' := [mv_R 0, mv_I 1, mv_I a, mv_I b, mv_I c, mv_I d, mv_I e, mv_I 0]) (st' := [mv_I a, mv_R 28]) (M1 := M) rfl ?_
              refine mv_callW (st2 := []) rfl (Or.inl rfl) rfl rfl rfl (sp_app (t := t) (by first | exact ht28 | rfl) (by omega)) (by first | decide | omega) (fun Ma19 hm20 => ?_)
              subst hm20
              refine mv_goW 5 (pc' := if (mv_w (0 + 1)) < 1 then 78 else 134) (ls' := [mv_R 0, mv_I 1, mv_I a, mv_I b, mv_I c, mv_I d, mv_I e, mv_I (mv_w (0 + 1))]) (st' := []) (M1 := (mv_st (mv_st M 29 (mv_up (M 29) t a)) 28 (mv_up (M 28) 1 ((t + 1 : Nat) : Int)))) rfl ?_
              rw [show mv_w (0 + 1) = 0 + 1 from mv_w_id (by omega) (by omega)]
              refine mv_ffW (by decide) ?_
              refine mv_goW 3 (pc' := 141) (ls' := [mv_R 0, mv_I 1, mv_I a, mv_I b, mv_I c, mv_I d, mv_I e, mv_I (0 + 1)]) (st' := [mv_I ((t + 1 : Nat) : Int)]) (M1 := (mv_st (mv_st M 29 (mv_up (M 29) t a)) 28 (mv_up (M 28) 1 ((t + 1 : Nat) : Int)))) rfl ?_
              refine mv_retW (fun n => rfl) ⟨_, rfl, ?_⟩
              refine mv_goW 3 (pc' := 3) (ls' := [mv_R 100, mv_I 1, mv_I a, mv_I b, mv_I c, mv_I d, mv_I e, mv_U]) (st' := [mv_I 5, mv_I 1, mv_I 1]) (M1 := (mv_st (mv_st M 29 (mv_up (M 29) t a)) 28 (mv_up (M 28) 1 ((t + 1 : Nat) : Int)))) rfl ?_
              have ha21 : (1 : Int) ≤ (1 : Int) ∧ (1 : Int) ≤ (5 : Int) := by omega
              refine mv_callPW (st2 := [mv_I 1]) rfl (Or.inr rfl) rfl rfl rfl (sp_min_t ha21) (by first | decide | omega) ?_
              refine mv_goW 1 (pc' := if 1 = 0 then 47 else 9) (ls' := [mv_R 100, mv_I 1, mv_I a, mv_I b, mv_I c, mv_I d, mv_I e, mv_U]) (st' := []) (M1 := (mv_st (mv_st M 29 (mv_up (M 29) t a)) 28 (mv_up (M 28) 1 ((t + 1 : Nat) : Int)))) rfl ?_
              refine mv_ffW (by decide) ?_
              refine mv_goW 1 (pc' := 10) (ls' := [mv_R 100, mv_I 1, mv_I a, mv_I b, mv_I c, mv_I d, mv_I e, mv_U]) (st' := [mv_I a]) (M1 := (mv_st (mv_st M 29 (mv_up (M 29) t a)) 28 (mv_up (M 28) 1 ((t + 1 : Nat) : Int)))) rfl ?_
              have ha22 : 0 ≤ a ∧ a ≤ 255 := by omega
              refine mv_callPW (st2 := [mv_I 1]) rfl (Or.inr rfl) rfl rfl rfl (sp_mby_t ha22) (by first | decide | omega) ?_
              refine mv_goW 1 (pc' := if 1 = 0 then 47 else 16) (ls' := [mv_R 100, mv_I 1, mv_I a, mv_I b, mv_I c, mv_I d, mv_I e, mv_U]) (st' := []) (M1 := (mv_st (mv_st M 29 (mv_up (M 29) t a)) 28 (mv_up (M 28) 1 ((t + 1 : Nat) : Int)))) rfl ?_
              refine mv_ffW (by decide) ?_
              refine mv_goW 1 (pc' := 17) (ls' := [mv_R 100, mv_I 1, mv_I a, mv_I b, mv_I c, mv_I d, mv_I e, mv_U]) (st' := [mv_I b]) (M1 := (mv_st (mv_st M 29 (mv_up (M 29) t a)) 28 (mv_up (M 28) 1 ((t + 1 : Nat) : Int)))) rfl ?_
              have ha23 : 0 ≤ b ∧ b ≤ 255 := by omega
              refine mv_callPW (st2 := [mv_I 1]) rfl (Or.inr rfl) rfl rfl rfl (sp_mby_t ha23) (by first | decide | omega) ?_
              refine mv_goW 1 (pc' := if 1 = 0 then 47 else 23) (ls' := [mv_R 100, mv_I 1, mv_I a, mv_I b, mv_I c, mv_I d, mv_I e, mv_U]) (st' := []) (M1 := (mv_st (mv_st M 29 (mv_up (M 29) t a)) 28 (mv_up (M 28) 1 ((t + 1 : Nat) : Int)))) rfl ?_
              refine mv_ffW (by decide) ?_
              refine mv_goW 1 (pc' := 25) (ls' := [mv_R 100, mv_I 1, mv_I a, mv_I b, mv_I c, mv_I d, mv_I e, mv_U]) (st' := [mv_I c]) (M1 := (mv_st (mv_st M 29 (mv_up (M 29) t a)) 28 (mv_up (M 28) 1 ((t + 1 : Nat) : Int)))) rfl ?_
              have ha24 : 0 ≤ c ∧ c ≤ 255 := by omega
              refine mv_callPW (st2 := [mv_I 1]) rfl (Or.inr rfl) rfl rfl rfl (sp_mby_t ha24) (by first | decide | omega) ?_
              refine mv_goW 1 (pc' := if 1 = 0 then 47 else 31) (ls' := [mv_R 100, mv_I 1, mv_I a, mv_I b, mv_I c, mv_I d, mv_I e, mv_U]) (st' := []) (M1 := (mv_st (mv_st M 29 (mv_up (M 29) t a)) 28 (mv_up (M 28) 1 ((t + 1 : Nat) : Int)))) rfl ?_
              refine mv_ffW (by decide) ?_
              refine mv_goW 1 (pc' := 33) (ls' := [mv_R 100, mv_I 1, mv_I a, mv_I b, mv_I c, mv_I d, mv_I e, mv_U]) (st' := [mv_I d]) (M1 := (mv_st (mv_st M 29 (mv_up (M 29) t a)) 28 (mv_up (M 28) 1 ((t + 1 : Nat) : Int)))) rfl ?_
              have ha25 : 0 ≤ d ∧ d ≤ 255 := by omega
              refine mv_callPW (st2 := [mv_I 1]) rfl (Or.inr rfl) rfl rfl rfl (sp_mby_t ha25) (by first | decide | omega) ?_
              refine mv_goW 1 (pc' := if 1 = 0 then 47 else 39) (ls' := [mv_R 100, mv_I 1, mv_I a, mv_I b, mv_I c, mv_I d, mv_I e, mv_U]) (st' := []) (M1 := (mv_st (mv_st M 29 (mv_up (M 29) t a)) 28 (mv_up (M 28) 1 ((t + 1 : Nat) : Int)))) rfl ?_
              refine mv_ffW (by decide) ?_
              refine mv_goW 1 (pc' := 41) (ls' := [mv_R 100, mv_I 1, mv_I a, mv_I b, mv_I c, mv_I d, mv_I e, mv_U]) (st' := [mv_I e]) (M1 := (mv_st (mv_st M 29 (mv_up (M 29) t a)) 28 (mv_up (M 28) 1 ((t + 1 : Nat) : Int)))) rfl ?_
              have ha26 : 0 ≤ e ∧ e ≤ 255 := by omega
              refine mv_callPW (st2 := [mv_I 1]) rfl (Or.inr rfl) rfl rfl rfl (sp_mby_t ha26) (by first | decide | omega) ?_
              refine mv_goW 1 (pc' := if 1 = 0 then 47 else 50) (ls' := [mv_R 100, mv_I 1, mv_I a, mv_I b, mv_I c, mv_I d, mv_I e, mv_U]) (st' := []) (M1 := (mv_st (mv_st M 29 (mv_up (M 29) t a)) 28 (mv_up (M 28) 1 ((t + 1 : Nat) : Int)))) rfl ?_
              refine mv_ffW (by decide) ?_
              refine mv_goW 2 (pc' := 54) (ls' := [mv_R 100, mv_I 1, mv_I a, mv_I b, mv_I c, mv_I d, mv_I e, mv_U]) (st' := [mv_I (M 100 9)]) (M1 := (mv_st (mv_st M 29 (mv_up (M 29) t a)) 28 (mv_up (M 28) 1 ((t + 1 : Nat) : Int)))) rfl ?_
              rw [show M 100 9 = (t : Int) from by exact htp.2.1]
              refine mv_goW 4 (pc' := if 160 < (mv_w ((t : Int) + 1)) then 62 else 65) (ls' := [mv_R 100, mv_I 1, mv_I a, mv_I b, mv_I c, mv_I d, mv_I e, mv_U]) (st' := []) (M1 := (mv_st (mv_st M 29 (mv_up (M 29) t a)) 28 (mv_up (M 28) 1 ((t + 1 : Nat) : Int)))) rfl ?_
              rw [show mv_w ((t : Int) + 1) = (t : Int) + 1 from mv_w_id (by omega) (by omega)]
              refine mv_ffW (by omega) ?_
              refine mv_goW 5 (pc' := if 0 < 1 then 74 else 142) (ls' := [mv_R 100, mv_I 1, mv_I a, mv_I b, mv_I c, mv_I d, mv_I e, mv_I 0]) (st' := []) (M1 := (mv_st (mv_st M 29 (mv_up (M 29) t a)) 28 (mv_up (M 28) 1 ((t + 1 : Nat) : Int)))) rfl ?_
              refine mv_ttW (by decide) ?_
              refine mv_goW 4 (pc' := 82) (ls' := [mv_R 100, mv_I 1, mv_I a, mv_I b, mv_I c, mv_I d, mv_I e, mv_I 0]) (st' := [mv_I (M 100 9), mv_R 108]) (M1 := (mv_st (mv_st M 29 (mv_up (M 29) t a)) 28 (mv_up (M 28) 1 ((t + 1 : Nat) : Int)))) rfl ?_
              rw [show M 100 9 = (t : Int) from by exact htp.2.1]
              refine mv_goW 2 (pc' := if 0 = 0 then 87 else 91) (ls' := [mv_R 100, mv_I 1, mv_I a, mv_I b, mv_I c, mv_I d, mv_I e, mv_I 0]) (st' := [mv_I (t : Int), mv_R 108]) (M1 := (mv_st (mv_st M 29 (mv_up (M 29) t a)) 28 (mv_up (M 28) 1 ((t + 1 : Nat) : Int)))) rfl ?_
              refine mv_ttW (by decide) ?_
              refine mv_goW 3 (pc' := if 0 ≤ (t : Int) ∧ (t : Int) < 160 then 126 else mv_bad) (ls' := [mv_R 100, mv_I 1, mv_I a, mv_I b, mv_I c, mv_I d, mv_I e, mv_I 0]) (st' := []) (M1 := (mv_st (mv_st (mv_st M 29 (mv_up (M 29) t a)) 28 (mv_up (M 28) 1 ((t + 1 : Nat) : Int))) 108 (mv_up (M 108) t a))) rfl ?_
              refine mv_ttW (by omega) ?_
              refine mv_goW 3 (pc' := 131) (ls' := [mv_R 100, mv_I 1, mv_I a, mv_I b, mv_I c, mv_I d, mv_I e, mv_I 0]) (st' := [mv_I (M 100 9), mv_R 100]) (M1 := (mv_st (mv_st (mv_st M 29 (mv_up (M 29) t a)) 28 (mv_up (M 28) 1 ((t + 1 : Nat) : Int))) 108 (mv_up (M 108) t a))) rfl ?_
              rw [show M 100 9 = (t : Int) from by exact htp.2.1]
              refine mv_goW 2 (pc' := 133) (ls' := [mv_R 100, mv_I 1, mv_I a, mv_I b, mv_I c, mv_I d, mv_I e, mv_I 0]) (st' := [mv_I (mv_w ((t : Int) + 1)), mv_R 100]) (M1 := (mv_st (mv_st (mv_st M 29 (mv_up (M 29) t a)) 28 (mv_up (M 28) 1 ((t + 1 : Nat) : Int))) 108 (mv_up (M 108) t a))) rfl ?_
              rw [show mv_w ((t : Int) + 1) = (t : Int) + 1 from mv_w_id (by omega) (by omega)]
              rw [show (t : Int) + 1 = ((t + 1 : Nat) : Int) from by omega]
              refine mv_goW 6 (pc' := if (mv_w (0 + 1)) < 1 then 74 else 142) (ls' := [mv_R 100, mv_I 1, mv_I a, mv_I b, mv_I c, mv_I d, mv_I e, mv_I (mv_w (0 + 1))]) (st' := []) (M1 := (mv_st (mv_st (mv_st (mv_st M 29 (mv_up (M 29) t a)) 28 (mv_up (M 28) 1 ((t + 1 : Nat) : Int))) 108 (mv_up (M 108) t a)) 100 (mv_up (M 100) 9 ((t + 1 : Nat) : Int)))) rfl ?_
              rw [show mv_w (0 + 1) = 0 + 1 from mv_w_id (by omega) (by omega)]
              refine mv_ffW (by decide) ?_
              refine mv_goW 2 (pc' := 146) (ls' := [mv_R 100, mv_I 1, mv_I a, mv_I b, mv_I c, mv_I d, mv_I e, mv_I (0 + 1)]) (st' := [mv_I ((t + 1 : Nat) : Int)]) (M1 := (mv_st (mv_st (mv_st (mv_st M 29 (mv_up (M 29) t a)) 28 (mv_up (M 28) 1 ((t + 1 : Nat) : Int))) 108 (mv_up (M 108) t a)) 100 (mv_up (M 100) 9 ((t + 1 : Nat) : Int)))) rfl ?_
              exact mv_retW (fun n => rfl) ⟨congrArg mv_I (by first | with_reducible rfl | omega), sp_fd_end (t2 := t + 1) h (fun i q1 q2 q3 q4 => by simp only [mv_st_n _ _ q1, mv_st_n _ _ q2, mv_st_n _ _ q3, mv_st_n _ _ q4]) rfl rfl (by omega) ⟨rfl, rfl, rfl, rfl, rfl, rfl⟩ (show ∀ j, j < t + 1 → mv_up (M 29) t a j = mv_up (M 108) t a j ∧ 0 ≤ mv_up (M 29) t a j ∧ mv_up (M 29) t a j ≤ 255 from sp_ub (htp.2.2.2) (by omega))⟩
          · refine mv_callPW (st2 := [mv_I 0]) rfl (Or.inr rfl) rfl rfl rfl (sp_cby_f ha11) (by first | decide | omega) ?_
            refine mv_goW 1 (pc' := if 0 = 0 then 48 else 51) (ls' := [mv_R 0, mv_I 1, mv_I a, mv_I b, mv_I c, mv_I d, mv_I e, mv_U]) (st' := []) (M1 := M) rfl ?_
            refine mv_ttW (by decide) ?_
            refine mv_goW 1 (pc' := 50) (ls' := [mv_R 0, mv_I 1, mv_I a, mv_I b, mv_I c, mv_I d, mv_I e, mv_U]) (st' := [mv_I (-2)]) (M1 := M) rfl ?_
            refine mv_retW (fun n => rfl) ⟨_, rfl, ?_⟩
            refine mv_goW 3 (pc' := 3) (ls' := [mv_R 100, mv_I 1, mv_I a, mv_I b, mv_I c, mv_I d, mv_I e, mv_U]) (st' := [mv_I 5, mv_I 1, mv_I 1]) (M1 := M) rfl ?_
            have ha27 : (1 : Int) ≤ (1 : Int) ∧ (1 : Int) ≤ (5 : Int) := by omega
            refine mv_callPW (st2 := [mv_I 1]) rfl (Or.inr rfl) rfl rfl rfl (sp_min_t ha27) (by first | decide | omega) ?_
            refine mv_goW 1 (pc' := if 1 = 0 then 47 else 9) (ls' := [mv_R 100, mv_I 1, mv_I a, mv_I b, mv_I c, mv_I d, mv_I e, mv_U]) (st' := []) (M1 := M) rfl ?_
            refine mv_ffW (by decide) ?_
            refine mv_goW 1 (pc' := 10) (ls' := [mv_R 100, mv_I 1, mv_I a, mv_I b, mv_I c, mv_I d, mv_I e, mv_U]) (st' := [mv_I a]) (M1 := M) rfl ?_
            have ha28 : 0 ≤ a ∧ a ≤ 255 := by omega
            refine mv_callPW (st2 := [mv_I 1]) rfl (Or.inr rfl) rfl rfl rfl (sp_mby_t ha28) (by first | decide | omega) ?_
            refine mv_goW 1 (pc' := if 1 = 0 then 47 else 16) (ls' := [mv_R 100, mv_I 1, mv_I a, mv_I b, mv_I c, mv_I d, mv_I e, mv_U]) (st' := []) (M1 := M) rfl ?_
            refine mv_ffW (by decide) ?_
            refine mv_goW 1 (pc' := 17) (ls' := [mv_R 100, mv_I 1, mv_I a, mv_I b, mv_I c, mv_I d, mv_I e, mv_U]) (st' := [mv_I b]) (M1 := M) rfl ?_
            have ha29 : 0 ≤ b ∧ b ≤ 255 := by omega
            refine mv_callPW (st2 := [mv_I 1]) rfl (Or.inr rfl) rfl rfl rfl (sp_mby_t ha29) (by first | decide | omega) ?_
            refine mv_goW 1 (pc' := if 1 = 0 then 47 else 23) (ls' := [mv_R 100, mv_I 1, mv_I a, mv_I b, mv_I c, mv_I d, mv_I e, mv_U]) (st' := []) (M1 := M) rfl ?_
            refine mv_ffW (by decide) ?_
            refine mv_goW 1 (pc' := 25) (ls' := [mv_R 100, mv_I 1, mv_I a, mv_I b, mv_I c, mv_I d, mv_I e, mv_U]) (st' := [mv_I c]) (M1 := M) rfl ?_
            have ha30 : 0 ≤ c ∧ c ≤ 255 := by omega
            refine mv_callPW (st2 := [mv_I 1]) rfl (Or.inr rfl) rfl rfl rfl (sp_mby_t ha30) (by first | decide | omega) ?_
            refine mv_goW 1 (pc' := if 1 = 0 then 47 else 31) (ls' := [mv_R 100, mv_I 1, mv_I a, mv_I b, mv_I c, mv_I d, mv_I e, mv_U]) (st' := []) (M1 := M) rfl ?_
            refine mv_ffW (by decide) ?_
            refine mv_goW 1 (pc' := 33) (ls' := [mv_R 100, mv_I 1, mv_I a, mv_I b, mv_I c, mv_I d, mv_I e, mv_U]) (st' := [mv_I d]) (M1 := M) rfl ?_
            have ha31 : 0 ≤ d ∧ d ≤ 255 := by omega
            refine mv_callPW (st2 := [mv_I 1]) rfl (Or.inr rfl) rfl rfl rfl (sp_mby_t ha31) (by first | decide | omega) ?_
            refine mv_goW 1 (pc' := if 1 = 0 then 47 else 39) (ls' := [mv_R 100, mv_I 1, mv_I a, mv_I b, mv_I c, mv_I d, mv_I e, mv_U]) (st' := []) (M1 := M) rfl ?_
            refine mv_ffW (by decide) ?_
            refine mv_goW 1 (pc' := 41) (ls' := [mv_R 100, mv_I 1, mv_I a, mv_I b, mv_I c, mv_I d, mv_I e, mv_U]) (st' := [mv_I e]) (M1 := M) rfl ?_
            have ha32 : ¬ (0 ≤ e ∧ e ≤ 255) := by omega
            refine mv_callPW (st2 := [mv_I 0]) rfl (Or.inr rfl) rfl rfl rfl (sp_mby_f ha32) (by first | decide | omega) ?_
            refine mv_goW 1 (pc' := if 0 = 0 then 47 else 50) (ls' := [mv_R 100, mv_I 1, mv_I a, mv_I b, mv_I c, mv_I d, mv_I e, mv_U]) (st' := []) (M1 := M) rfl ?_
            refine mv_ttW (by decide) ?_
            refine mv_goW 1 (pc' := 49) (ls' := [mv_R 100, mv_I 1, mv_I a, mv_I b, mv_I c, mv_I d, mv_I e, mv_U]) (st' := [mv_I (-2)]) (M1 := M) rfl ?_
            exact mv_retW (fun n => rfl) ⟨congrArg mv_I (by first | with_reducible rfl | omega), hI⟩
        · refine mv_callPW (st2 := [mv_I 0]) rfl (Or.inr rfl) rfl rfl rfl (sp_cby_f ha10) (by first | decide | omega) ?_
          refine mv_goW 1 (pc' := if 0 = 0 then 48 else 40) (ls' := [mv_R 0, mv_I 1, mv_I a, mv_I b, mv_I c, mv_I d, mv_I e, mv_U]) (st' := []) (M1 := M) rfl ?_
          refine mv_ttW (by decide) ?_
          refine mv_goW 1 (pc' := 50) (ls' := [mv_R 0, mv_I 1, mv_I a, mv_I b, mv_I c, mv_I d, mv_I e, mv_U]) (st' := [mv_I (-2)]) (M1 := M) rfl ?_
          refine mv_retW (fun n => rfl) ⟨_, rfl, ?_⟩
          refine mv_goW 3 (pc' := 3) (ls' := [mv_R 100, mv_I 1, mv_I a, mv_I b, mv_I c, mv_I d, mv_I e, mv_U]) (st' := [mv_I 5, mv_I 1, mv_I 1]) (M1 := M) rfl ?_
          have ha33 : (1 : Int) ≤ (1 : Int) ∧ (1 : Int) ≤ (5 : Int) := by omega
          refine mv_callPW (st2 := [mv_I 1]) rfl (Or.inr rfl) rfl rfl rfl (sp_min_t ha33) (by first | decide | omega) ?_
          refine mv_goW 1 (pc' := if 1 = 0 then 47 else 9) (ls' := [mv_R 100, mv_I 1, mv_I a, mv_I b, mv_I c, mv_I d, mv_I e, mv_U]) (st' := []) (M1 := M) rfl ?_
          refine mv_ffW (by decide) ?_
          refine mv_goW 1 (pc' := 10) (ls' := [mv_R 100, mv_I 1, mv_I a, mv_I b, mv_I c, mv_I d, mv_I e, mv_U]) (st' := [mv_I a]) (M1 := M) rfl ?_
          have ha34 : 0 ≤ a ∧ a ≤ 255 := by omega
          refine mv_callPW (st2 := [mv_I 1]) rfl (Or.inr rfl) rfl rfl rfl (sp_mby_t ha34) (by first | decide | omega) ?_
          refine mv_goW 1 (pc' := if 1 = 0 then 47 else 16) (ls' := [mv_R 100, mv_I 1, mv_I a, mv_I b, mv_I c, mv_I d, mv_I e, mv_U]) (st' := []) (M1 := M) rfl ?_
          refine mv_ffW (by decide) ?_
          refine mv_goW 1 (pc' := 17) (ls' := [mv_R 100, mv_I 1, mv_I a, mv_I b, mv_I c, mv_I d, mv_I e, mv_U]) (st' := [mv_I b]) (M1 := M) rfl ?_
          have ha35 : 0 ≤ b ∧ b ≤ 255 := by omega
          refine mv_callPW (st2 := [mv_I 1]) rfl (Or.inr rfl) rfl rfl rfl (sp_mby_t ha35) (by first | decide | omega) ?_
          refine mv_goW 1 (pc' := if 1 = 0 then 47 else 23) (ls' := [mv_R 100, mv_I 1, mv_I a, mv_I b, mv_I c, mv_I d, mv_I e, mv_U]) (st' := []) (M1 := M) rfl ?_
          refine mv_ffW (by decide) ?_
          refine mv_goW 1 (pc' := 25) (ls' := [mv_R 100, mv_I 1, mv_I a, mv_I b, mv_I c, mv_I d, mv_I e, mv_U]) (st' := [mv_I c]) (M1 := M) rfl ?_
          have ha36 : 0 ≤ c ∧ c ≤ 255 := by omega
          refine mv_callPW (st2 := [mv_I 1]) rfl (Or.inr rfl) rfl rfl rfl (sp_mby_t ha36) (by first | decide | omega) ?_
          refine mv_goW 1 (pc' := if 1 = 0 then 47 else 31) (ls' := [mv_R 100, mv_I 1, mv_I a, mv_I b, mv_I c, mv_I d, mv_I e, mv_U]) (st' := []) (M1 := M) rfl ?_
          refine mv_ffW (by decide) ?_
          refine mv_goW 1 (pc' := 33) (ls' := [mv_R 100, mv_I 1, mv_I a, mv_I b, mv_I c, mv_I d, mv_I e, mv_U]) (st' := [mv_I d]) (M1 := M) rfl ?_
          have ha37 : ¬ (0 ≤ d ∧ d ≤ 255) := by omega
          refine mv_callPW (st2 := [mv_I 0]) rfl (Or.inr rfl) rfl rfl rfl (sp_mby_f ha37) (by first | decide | omega) ?_
          refine mv_goW 1 (pc' := if 0 = 0 then 47 else 39) (ls' := [mv_R 100, mv_I 1, mv_I a, mv_I b, mv_I c, mv_I d, mv_I e, mv_U]) (st' := []) (M1 := M) rfl ?_
          refine mv_ttW (by decide) ?_
          refine mv_goW 1 (pc' := 49) (ls' := [mv_R 100, mv_I 1, mv_I a, mv_I b, mv_I c, mv_I d, mv_I e, mv_U]) (st' := [mv_I (-2)]) (M1 := M) rfl ?_
          exact mv_retW (fun n => rfl) ⟨congrArg mv_I (by first | with_reducible rfl | omega), hI⟩
      · refine mv_callPW (st2 := [mv_I 0]) rfl (Or.inr rfl) rfl rfl rfl (sp_cby_f ha9) (by first | decide | omega) ?_
        refine mv_goW 1 (pc' := if 0 = 0 then 48 else 32) (ls' := [mv_R 0, mv_I 1, mv_I a, mv_I b, mv_I c, mv_I d, mv_I e, mv_U]) (st' := []) (M1 := M) rfl ?_
        refine mv_ttW (by decide) ?_
        refine mv_goW 1 (pc' := 50) (ls' := [mv_R 0, mv_I 1, mv_I a, mv_I b, mv_I c, mv_I d, mv_I e, mv_U]) (st' := [mv_I (-2)]) (M1 := M) rfl ?_
        refine mv_retW (fun n => rfl) ⟨_, rfl, ?_⟩
        refine mv_goW 3 (pc' := 3) (ls' := [mv_R 100, mv_I 1, mv_I a, mv_I b, mv_I c, mv_I d, mv_I e, mv_U]) (st' := [mv_I 5, mv_I 1, mv_I 1]) (M1 := M) rfl ?_
        have ha38 : (1 : Int) ≤ (1 : Int) ∧ (1 : Int) ≤ (5 : Int) := by omega
        refine mv_callPW (st2 := [mv_I 1]) rfl (Or.inr rfl) rfl rfl rfl (sp_min_t ha38) (by first | decide | omega) ?_
        refine mv_goW 1 (pc' := if 1 = 0 then 47 else 9) (ls' := [mv_R 100, mv_I 1, mv_I a, mv_I b, mv_I c, mv_I d, mv_I e, mv_U]) (st' := []) (M1 := M) rfl ?_
        refine mv_ffW (by decide) ?_
        refine mv_goW 1 (pc' := 10) (ls' := [mv_R 100, mv_I 1, mv_I a, mv_I b, mv_I c, mv_I d, mv_I e, mv_U]) (st' := [mv_I a]) (M1 := M) rfl ?_
        have ha39 : 0 ≤ a ∧ a ≤ 255 := by omega
        refine mv_callPW (st2 := [mv_I 1]) rfl (Or.inr rfl) rfl rfl rfl (sp_mby_t ha39) (by first | decide | omega) ?_
        refine mv_goW 1 (pc' := if 1 = 0 then 47 else 16) (ls' := [mv_R 100, mv_I 1, mv_I a, mv_I b, mv_I c, mv_I d, mv_I e, mv_U]) (st' := []) (M1 := M) rfl ?_
        refine mv_ffW (by decide) ?_
        refine mv_goW 1 (pc' := 17) (ls' := [mv_R 100, mv_I 1, mv_I a, mv_I b, mv_I c, mv_I d, mv_I e, mv_U]) (st' := [mv_I b]) (M1 := M) rfl ?_
        have ha40 : 0 ≤ b ∧ b ≤ 255 := by omega
        refine mv_callPW (st2 := [mv_I 1]) rfl (Or.inr rfl) rfl rfl rfl (sp_mby_t ha40) (by first | decide | omega) ?_
        refine mv_goW 1 (pc' := if 1 = 0 then 47 else 23) (ls' := [mv_R 100, mv_I 1, mv_I a, mv_I b, mv_I c, mv_I d, mv_I e, mv_U]) (st' := []) (M1 := M) rfl ?_
        refine mv_ffW (by decide) ?_
        refine mv_goW 1 (pc' := 25) (ls' := [mv_R 100, mv_I 1, mv_I a, mv_I b, mv_I c, mv_I d, mv_I e, mv_U]) (st' := [mv_I c]) (M1 := M) rfl ?_
        have ha41 : ¬ (0 ≤ c ∧ c ≤ 255) := by omega
        refine mv_callPW (st2 := [mv_I 0]) rfl (Or.inr rfl) rfl rfl rfl (sp_mby_f ha41) (by first | decide | omega) ?_
        refine mv_goW 1 (pc' := if 0 = 0 then 47 else 31) (ls' := [mv_R 100, mv_I 1, mv_I a, mv_I b, mv_I c, mv_I d, mv_I e, mv_U]) (st' := []) (M1 := M) rfl ?_
        refine mv_ttW (by decide) ?_
        refine mv_goW 1 (pc' := 49) (ls' := [mv_R 100, mv_I 1, mv_I a, mv_I b, mv_I c, mv_I d, mv_I e, mv_U]) (st' := [mv_I (-2)]) (M1 := M) rfl ?_
        exact mv_retW (fun n => rfl) ⟨congrArg mv_I (by first | with_reducible rfl | omega), hI⟩
    · refine mv_callPW (st2 := [mv_I 0]) rfl (Or.inr rfl) rfl rfl rfl (sp_cby_f ha8) (by first | decide | omega) ?_
      refine mv_goW 1 (pc' := if 0 = 0 then 48 else 24) (ls' := [mv_R 0, mv_I 1, mv_I a, mv_I b, mv_I c, mv_I d, mv_I e, mv_U]) (st' := []) (M1 := M) rfl ?_
      refine mv_ttW (by decide) ?_
      refine mv_goW 1 (pc' := 50) (ls' := [mv_R 0, mv_I 1, mv_I a, mv_I b, mv_I c, mv_I d, mv_I e, mv_U]) (st' := [mv_I (-2)]) (M1 := M) rfl ?_
      refine mv_retW (fun n => rfl) ⟨_, rfl, ?_⟩
      refine mv_goW 3 (pc' := 3) (ls' := [mv_R 100, mv_I 1, mv_I a, mv_I b, mv_I c, mv_I d, mv_I e, mv_U]) (st' := [mv_I 5, mv_I 1, mv_I 1]) (M1 := M) rfl ?_
      have ha42 : (1 : Int) ≤ (1 : Int) ∧ (1 : Int) ≤ (5 : Int) := by omega
      refine mv_callPW (st2 := [mv_I 1]) rfl (Or.inr rfl) rfl rfl rfl (sp_min_t ha42) (by first | decide | omega) ?_
      refine mv_goW 1 (pc' := if 1 = 0 then 47 else 9) (ls' := [mv_R 100, mv_I 1, mv_I a, mv_I b, mv_I c, mv_I d, mv_I e, mv_U]) (st' := []) (M1 := M) rfl ?_
      refine mv_ffW (by decide) ?_
      refine mv_goW 1 (pc' := 10) (ls' := [mv_R 100, mv_I 1, mv_I a, mv_I b, mv_I c, mv_I d, mv_I e, mv_U]) (st' := [mv_I a]) (M1 := M) rfl ?_
      have ha43 : 0 ≤ a ∧ a ≤ 255 := by omega
      refine mv_callPW (st2 := [mv_I 1]) rfl (Or.inr rfl) rfl rfl rfl (sp_mby_t ha43) (by first | decide | omega) ?_
      refine mv_goW 1 (pc' := if 1 = 0 then 47 else 16) (ls' := [mv_R 100, mv_I 1, mv_I a, mv_I b, mv_I c, mv_I d, mv_I e, mv_U]) (st' := []) (M1 := M) rfl ?_
      refine mv_ffW (by decide) ?_
      refine mv_goW 1 (pc' := 17) (ls' := [mv_R 100, mv_I 1, mv_I a, mv_I b, mv_I c, mv_I d, mv_I e, mv_U]) (st' := [mv_I b]) (M1 := M) rfl ?_
      have ha44 : ¬ (0 ≤ b ∧ b ≤ 255) := by omega
      refine mv_callPW (st2 := [mv_I 0]) rfl (Or.inr rfl) rfl rfl rfl (sp_mby_f ha44) (by first | decide | omega) ?_
      refine mv_goW 1 (pc' := if 0 = 0 then 47 else 23) (ls' := [mv_R 100, mv_I 1, mv_I a, mv_I b, mv_I c, mv_I d, mv_I e, mv_U]) (st' := []) (M1 := M) rfl ?_
      refine mv_ttW (by decide) ?_
      refine mv_goW 1 (pc' := 49) (ls' := [mv_R 100, mv_I 1, mv_I a, mv_I b, mv_I c, mv_I d, mv_I e, mv_U]) (st' := [mv_I (-2)]) (M1 := M) rfl ?_
      exact mv_retW (fun n => rfl) ⟨congrArg mv_I (by first | with_reducible rfl | omega), hI⟩
  · refine mv_callPW (st2 := [mv_I 0]) rfl (Or.inr rfl) rfl rfl rfl (sp_cby_f ha7) (by first | decide | omega) ?_
    refine mv_goW 1 (pc' := if 0 = 0 then 48 else 17) (ls' := [mv_R 0, mv_I 1, mv_I a, mv_I b, mv_I c, mv_I d, mv_I e, mv_U]) (st' := []) (M1 := M) rfl ?_
    refine mv_ttW (by decide) ?_
    refine mv_goW 1 (pc' := 50) (ls' := [mv_R 0, mv_I 1, mv_I a, mv_I b, mv_I c, mv_I d, mv_I e, mv_U]) (st' := [mv_I (-2)]) (M1 := M) rfl ?_
    refine mv_retW (fun n => rfl) ⟨_, rfl, ?_⟩
    refine mv_goW 3 (pc' := 3) (ls' := [mv_R 100, mv_I 1, mv_I a, mv_I b, mv_I c, mv_I d, mv_I e, mv_U]) (st' := [mv_I 5, mv_I 1, mv_I 1]) (M1 := M) rfl ?_
    have ha45 : (1 : Int) ≤ (1 : Int) ∧ (1 : Int) ≤ (5 : Int) := by omega
    refine mv_callPW (st2 := [mv_I 1]) rfl (Or.inr rfl) rfl rfl rfl (sp_min_t ha45) (by first | decide | omega) ?_
    refine mv_goW 1 (pc' := if 1 = 0 then 47 else 9) (ls' := [mv_R 100, mv_I 1, mv_I a, mv_I b, mv_I c, mv_I d, mv_I e, mv_U]) (st' := []) (M1 := M) rfl ?_
    refine mv_ffW (by decide) ?_
    refine mv_goW 1 (pc' := 10) (ls' := [mv_R 100, mv_I 1, mv_I a, mv_I b, mv_I c, mv_I d, mv_I e, mv_U]) (st' := [mv_I a]) (M1 := M) rfl ?_
    have ha46 : ¬ (0 ≤ a ∧ a ≤ 255) := by omega
    refine mv_callPW (st2 := [mv_I 0]) rfl (Or.inr rfl) rfl rfl rfl (sp_mby_f ha46) (by first | decide | omega) ?_
    refine mv_goW 1 (pc' := if 0 = 0 then 47 else 16) (ls' := [mv_R 100, mv_I 1, mv_I a, mv_I b, mv_I c, mv_I d, mv_I e, mv_U]) (st' := []) (M1 := M) rfl ?_
    refine mv_ttW (by decide) ?_
    refine mv_goW 1 (pc' := 49) (ls' := [mv_R 100, mv_I 1, mv_I a, mv_I b, mv_I c, mv_I d, mv_I e, mv_U]) (st' := [mv_I (-2)]) (M1 := M) rfl ?_
    exact mv_retW (fun n => rfl) ⟨congrArg mv_I (by first | with_reducible rfl | omega), hI⟩
theorem sp_k2_2 (a b c d e : Int) : sp_call 63 125 [mv_I 2, mv_I a, mv_I b, mv_I c, mv_I d, mv_I e] [mv_I 2, mv_I a, mv_I b, mv_I c, mv_I d, mv_I e] := by
  refine sp_mkW (lc := [mv_R 0, mv_I 2, mv_I a, mv_I b, mv_I c, mv_I d, mv_I e, mv_U]) (lm := [mv_R 100, mv_I 2, mv_I a, mv_I b, mv_I c, mv_I d, mv_I e, mv_U]) rfl rfl (fun M hI => ?_)
  have hI2 := hI
  obtain ⟨V, P, n, B, K, t, h⟩ := hI2
  have h' := h
  obtain ⟨_, _, _, _, htp, _⟩ := h'
  have ht28 := htp.1
  have ht160 := htp.2.2.1
  refine mv_goW 3 (pc' := if 2 < 1 then 48 else 5) (ls' := [mv_R 0, mv_I 2, mv_I a, mv_I b, mv_I c, mv_I d, mv_I e, mv_U]) (st' := []) (M1 := M) rfl ?_
  refine mv_ffW (by decide) ?_
  refine mv_goW 3 (pc' := if 5 < 2 then 48 else 10) (ls' := [mv_R 0, mv_I 2, mv_I a, mv_I b, mv_I c, mv_I d, mv_I e, mv_U]) (st' := []) (M1 := M) rfl ?_
  refine mv_ffW (by decide) ?_
  refine mv_goW 1 (pc' := 11) (ls' := [mv_R 0, mv_I 2, mv_I a, mv_I b, mv_I c, mv_I d, mv_I e, mv_U]) (st' := [mv_I a]) (M1 := M) rfl ?_
  by_cases ha47 : 0 ≤ a ∧ a ≤ 255
  · refine mv_callPW (st2 := [mv_I 1]) rfl (Or.inr rfl) rfl rfl rfl (sp_cby_t ha47) (by first | decide | omega) ?_
    refine mv_goW 1 (pc' := if 1 = 0 then 48 else 17) (ls' := [mv_R 0, mv_I 2, mv_I a, mv_I b, mv_I c, mv_I d, mv_I e, mv_U]) (st' := []) (M1 := M) rfl ?_
    refine mv_ffW (by decide) ?_
    refine mv_goW 1 (pc' := 18) (ls' := [mv_R 0, mv_I 2, mv_I a, mv_I b, mv_I c, mv_I d, mv_I e, mv_U]) (st' := [mv_I b]) (M1 := M) rfl ?_
    by_cases ha48 : 0 ≤ b ∧ b ≤ 255
    · refine mv_callPW (st2 := [mv_I 1]) rfl (Or.inr rfl) rfl rfl rfl (sp_cby_t ha48) (by first | decide | omega) ?_
      refine mv_goW 1 (pc' := if 1 = 0 then 48 else 24) (ls' := [mv_R 0, mv_I 2, mv_I a, mv_I b, mv_I c, mv_I d, mv_I e, mv_U]) (st' := []) (M1 := M) rfl ?_
      refine mv_ffW (by decide) ?_
      refine mv_goW 1 (pc' := 26) (ls' := [mv_R 0, mv_I 2, mv_I a, mv_I b, mv_I c, mv_I d, mv_I e, mv_U]) (st' := [mv_I c]) (M1 := M) rfl ?_
      by_cases ha49 : 0 ≤ c ∧ c ≤ 255
      · refine mv_callPW (st2 := [mv_I 1]) rfl (Or.inr rfl) rfl rfl rfl (sp_cby_t ha49) (by first | decide | omega) ?_
        refine mv_goW 1 (pc' := if 1 = 0 then 48 else 32) (ls' := [mv_R 0, mv_I 2, mv_I a, mv_I b, mv_I c, mv_I d, mv_I e, mv_U]) (st' := []) (M1 := M) rfl ?_
        refine mv_ffW (by decide) ?_
        refine mv_goW 1 (pc' := 34) (ls' := [mv_R 0, mv_I 2, mv_I a, mv_I b, mv_I c, mv_I d, mv_I e, mv_U]) (st' := [mv_I d]) (M1 := M) rfl ?_
        by_cases ha50 : 0 ≤ d ∧ d ≤ 255
        · refine mv_callPW (st2 := [mv_I 1]) rfl (Or.inr rfl) rfl rfl rfl (sp_cby_t ha50) (by first | decide | omega) ?_
          refine mv_goW 1 (pc' := if 1 = 0 then 48 else 40) (ls' := [mv_R 0, mv_I 2, mv_I a, mv_I b, mv_I c, mv_I d, mv_I e, mv_U]) (st' := []) (M1 := M) rfl ?_
          refine mv_ffW (by decide) ?_
          refine mv_goW 1 (pc' := 42) (ls' := [mv_R 0, mv_I 2, mv_I a, mv_I b, mv_I c, mv_I d, mv_I e, mv_U]) (st' := [mv_I e]) (M1 := M) rfl ?_
          by_cases ha51 : 0 ≤ e ∧ e ≤ 255
          · refine mv_callPW (st2 := [mv_I 1]) rfl (Or.inr rfl) rfl rfl rfl (sp_cby_t ha51) (by first | decide | omega) ?_
            refine mv_goW 1 (pc' := if 1 = 0 then 48 else 51) (ls' := [mv_R 0, mv_I 2, mv_I a, mv_I b, mv_I c, mv_I d, mv_I e, mv_U]) (st' := []) (M1 := M) rfl ?_
            refine mv_ffW (by decide) ?_
            refine mv_goW 3 (pc' := 58) (ls' := [mv_R 0, mv_I 2, mv_I a, mv_I b, mv_I c, mv_I d, mv_I e, mv_U]) (st' := [mv_I (M 28 1)]) (M1 := M) rfl ?_
            rw [show M 28 1 = (t : Int) from by exact htp.1]
            refine mv_goW 4 (pc' := if 160 < (mv_w ((t : Int) + 2)) then 66 else 69) (ls' := [mv_R 0, mv_I 2, mv_I a, mv_I b, mv_I c, mv_I d, mv_I e, mv_U]) (st' := []) (M1 := M) rfl ?_
            rw [show mv_w ((t : Int) + 2) = (t : Int) + 2 from mv_w_id (by omega) (by omega)]
            refine mv_spW (fun ha52 => ?_) (fun ha52 => ?_)
            · refine mv_goW 1 (pc' := 68) (ls' := [mv_R 0, mv_I 2, mv_I a, mv_I b, mv_I c, mv_I d, mv_I e, mv_U]) (st' := [mv_I (-4)]) (M1 := M) rfl ?_
              refine mv_retW (fun n => rfl) ⟨_, rfl, ?_⟩
              refine mv_goW 3 (pc' := 3) (ls' := [mv_R 100, mv_I 2, mv_I a, mv_I b, mv_I c, mv_I d, mv_I e, mv_U]) (st' := [mv_I 5, mv_I 1, mv_I 2]) (M1 := M) rfl ?_
              have ha53 : (1 : Int) ≤ (2 : Int) ∧ (2 : Int) ≤ (5 : Int) := by omega
              refine mv_callPW (st2 := [mv_I 1]) rfl (Or.inr rfl) rfl rfl rfl (sp_min_t ha53) (by first | decide | omega) ?_
              refine mv_goW 1 (pc' := if 1 = 0 then 47 else 9) (ls' := [mv_R 100, mv_I 2, mv_I a, mv_I b, mv_I c, mv_I d, mv_I e, mv_U]) (st' := []) (M1 := M) rfl ?_
              refine mv_ffW (by decide) ?_
              refine mv_goW 1 (pc' := 10) (ls' := [mv_R 100, mv_I 2, mv_I a, mv_I b, mv_I c, mv_I d, mv_I e, mv_U]) (st' := [mv_I a]) (M1 := M) rfl ?_
              have ha54 : 0 ≤ a ∧ a ≤ 255 := by omega
              refine mv_callPW (st2 := [mv_I 1]) rfl (Or.inr rfl) rfl rfl rfl (sp_mby_t ha54) (by first | decide | omega) ?_
              refine mv_goW 1 (pc' := if 1 = 0 then 47 else 16) (ls' := [mv_R 100, mv_I 2, mv_I a, mv_I b, mv_I c, mv_I d, mv_I e, mv_U]) (st' := []) (M1 := M) rfl ?_
              refine mv_ffW (by decide) ?_
              refine mv_goW 1 (pc' := 17) (ls' := [mv_R 100, mv_I 2, mv_I a, mv_I b, mv_I c, mv_I d, mv_I e, mv_U]) (st' := [mv_I b]) (M1 := M) rfl ?_
              have ha55 : 0 ≤ b ∧ b ≤ 255 := by omega
              refine mv_callPW (st2 := [mv_I 1]) rfl (Or.inr rfl) rfl rfl rfl (sp_mby_t ha55) (by first | decide | omega) ?_
              refine mv_goW 1 (pc' := if 1 = 0 then 47 else 23) (ls' := [mv_R 100, mv_I 2, mv_I a, mv_I b, mv_I c, mv_I d, mv_I e, mv_U]) (st' := []) (M1 := M) rfl ?_
              refine mv_ffW (by decide) ?_
              refine mv_goW 1 (pc' := 25) (ls' := [mv_R 100, mv_I 2, mv_I a, mv_I b, mv_I c, mv_I d, mv_I e, mv_U]) (st' := [mv_I c]) (M1 := M) rfl ?_
              have ha56 : 0 ≤ c ∧ c ≤ 255 := by omega
              refine mv_callPW (st2 := [mv_I 1]) rfl (Or.inr rfl) rfl rfl rfl (sp_mby_t ha56) (by first | decide | omega) ?_
              refine mv_goW 1 (pc' := if 1 = 0 then 47 else 31) (ls' := [mv_R 100, mv_I 2, mv_I a, mv_I b, mv_I c, mv_I d, mv_I e, mv_U]) (st' := []) (M1 := M) rfl ?_
              refine mv_ffW (by decide) ?_
              refine mv_goW 1 (pc' := 33) (ls' := [mv_R 100, mv_I 2, mv_I a, mv_I b, mv_I c, mv_I d, mv_I e, mv_U]) (st' := [mv_I d]) (M1 := M) rfl ?_
              have ha57 : 0 ≤ d ∧ d ≤ 255 := by omega
              refine mv_callPW (st2 := [mv_I 1]) rfl (Or.inr rfl) rfl rfl rfl (sp_mby_t ha57) (by first | decide | omega) ?_
              refine mv_goW 1 (pc' := if 1 = 0 then 47 else 39) (ls' := [mv_R 100, mv_I 2, mv_I a, mv_I b, mv_I c, mv_I d, mv_I e, mv_U]) (st' := []) (M1 := M) rfl ?_
              refine mv_ffW (by decide) ?_
              refine mv_goW 1 (pc' := 41) (ls' := [mv_R 100, mv_I 2, mv_I a, mv_I b, mv_I c, mv_I d, mv_I e, mv_U]) (st' := [mv_I e]) (M1 := M) rfl ?_
              have ha58 : 0 ≤ e ∧ e ≤ 255 := by omega
              refine mv_callPW (st2 := [mv_I 1]) rfl (Or.inr rfl) rfl rfl rfl (sp_mby_t ha58) (by first | decide | omega) ?_
              refine mv_goW 1 (pc' := if 1 = 0 then 47 else 50) (ls' := [mv_R 100, mv_I 2, mv_I a, mv_I b, mv_I c, mv_I d, mv_I e, mv_U]) (st' := []) (M1 := M) rfl ?_
              refine mv_ffW (by decide) ?_
              refine mv_goW 2 (pc' := 54) (ls' := [mv_R 100, mv_I 2, mv_I a, mv_I b, mv_I c, mv_I d, mv_I e, mv_U]) (st' := [mv_I (M 100 9)]) (M1 := M) rfl ?_
              rw [show M 100 9 = (t : Int) from by exact htp.2.1]
              refine mv_goW 4 (pc' := if 160 < (mv_w ((t : Int) + 2)) then 62 else 65) (ls' := [mv_R 100, mv_I 2, mv_I a, mv_I b, mv_I c, mv_I d, mv_I e, mv_U]) (st' := []) (M1 := M) rfl ?_
              rw [show mv_w ((t : Int) + 2) = (t : Int) + 2 from mv_w_id (by omega) (by omega)]
              refine mv_ttW (by omega) ?_
              refine mv_goW 1 (pc' := 64) (ls' := [mv_R 100, mv_I 2, mv_I a, mv_I b, mv_I c, mv_I d, mv_I e, mv_U]) (st' := [mv_I (-4)]) (M1 := M) rfl ?_
              exact mv_retW (fun n => rfl) ⟨congrArg mv_I (by first | with_reducible rfl | omega), hI⟩
            · refine mv_goW 5 (pc' := if 0 < 2 then 78 else 134) (ls' := [mv_R 0, mv_I 2, mv_I a, mv_I b, mv_I c, mv_I d, mv_I e, mv_I 0]) (st' := []) (M1 := M) rfl ?_
              refine mv_ttW (by decide) ?_
              refine mv_goW 4 (pc' := if 0 = 0 then 87 else 91) (ls' := [mv_R 0, mv_I 2, mv_I a, mv_I b, mv_I c, mv_I d, mv_I e, mv_I 0]) (st' := [mv_R 28]) (M1 := M) rfl ?_
              refine mv_ttW (by decide) ?_
              refine mv_goW 2 (pc' := 125) (ls' := [mv_R 0, mv_I 2, mv_I a, mv_I b, mv_I c, mv_I d, mv_I e, mv_I 0]) (st' := [mv_I a, mv_R 28]) (M1 := M) rfl ?_
              refine mv_callW (st2 := []) rfl (Or.inl rfl) rfl rfl rfl (sp_app (t := t) (by first | exact ht28 | rfl) (by omega)) (by first | decide | omega) (fun Ma59 hm60 => ?_)
              subst hm60
              refine mv_goW 5 (pc' := if (mv_w (0 + 1)) < 2 then 78 else 134) (ls' := [mv_R 0, mv_I 2, mv_I a, mv_I b, mv_I c, mv_I d, mv_I e, mv_I (mv_w (0 + 1))]) (st' := []) (M1 := (mv_st (mv_st M 29 (mv_up (M 29) t a)) 28 (mv_up (M 28) 1 ((t + 1 : Nat) : Int)))) rfl ?_
              rw [show mv_w (0 + 1) = 0 + 1 from mv_w_id (by omega) (by omega)]
              refine mv_ttW (by decide) ?_
              refine mv_goW 4 (pc' := if (0 + 1) = 0 then 87 else 91) (ls' := [mv_R 0, mv_I 2, mv_I a, mv_I b, mv_I c, mv_I d, mv_I e, mv_I (0 + 1)]) (st' := [mv_R 28]) (M1 := (mv_st (mv_st M 29 (mv_up (M 29) t a)) 28 (mv_up (M 28) 1 ((t + 1 : Nat) : Int)))) rfl ?_
              refine mv_ffW (by decide) ?_
              refine mv_goW 3 (pc' := if (0 + 1) = 1 then 97 else 101) (ls' := [mv_R 0, mv_I 2, mv_I a, mv_I b, mv_I c, mv_I d, mv_I e, mv_I (0 + 1)]) (st' := [mv_R 28]) (M1 := (mv_st (mv_st M 29 (mv_up (M 29) t a)) 28 (mv_up (M 28) 1 ((t + 1 : Nat) : Int)))) rfl ?_
              refine mv_ttW (by decide) ?_
              refine mv_goW 2 (pc' := 125) (ls' := [mv_R 0, mv_I 2, mv_I a, mv_I b, mv_I c, mv_I d, mv_I e, mv_I (0 + 1)]) (st' := [mv_I b, mv_R 28]) (M1 := (mv_st (mv_st M 29 (mv_up (M 29) t a)) 28 (mv_up (M 28) 1 ((t + 1 : Nat) : Int)))) rfl ?_
              refine mv_callW (st2 := []) rfl (Or.inl rfl) rfl rfl rfl (sp_app (t := t + 1) (by first | exact ht28 | rfl) (by omega)) (by first | decide | omega) (fun Ma61 hm62 => ?_)
              subst hm62
              refine mv_goW 5 (pc' := if (mv_w ((0 + 1) + 1)) < 2 then 78 else 134) (ls' := [mv_R 0, mv_I 2, mv_I a, mv_I b, mv_I c, mv_I d, mv_I e, mv_I (mv_w ((0 + 1) + 1))]) (st' := []) (M1 := (mv_st (mv_st (mv_st (mv_st M 29 (mv_up (M 29) t a)) 28 (mv_up (M 28) 1 ((t + 1 : Nat) : Int))) 29 (mv_up (mv_up (M 29) t a) (t + 1) b)) 28 (mv_up (mv_up (M 28) 1 ((t + 1 : Nat) : Int)) 1 ((t + 2 : Nat) : Int)))) rfl ?_
              rw [show mv_w ((0 + 1) + 1) = (0 + 1) + 1 from mv_w_id (by omega) (by omega)]
              refine mv_ffW (by decide) ?_
              refine mv_goW 3 (pc' := 141) (ls' := [mv_R 0, mv_I 2, mv_I a, mv_I b, mv_I c, mv_I d, mv_I e, mv_I ((0 + 1) + 1)]) (st' := [mv_I ((t + 2 : Nat) : Int)]) (M1 := (mv_st (mv_st (mv_st (mv_st M 29 (mv_up (M 29) t a)) 28 (mv_up (M 28) 1 ((t + 1 : Nat) : Int))) 29 (mv_up (mv_up (M 29) t a) (t + 1) b)) 28 (mv_up (mv_up (M 28) 1 ((t + 1 : Nat) : Int)) 1 ((t + 2 : Nat) : Int)))) rfl ?_
              refine mv_retW (fun n => rfl) ⟨_, rfl, ?_⟩
              refine mv_goW 3 (pc' := 3) (ls' := [mv_R 100, mv_I 2, mv_I a, mv_I b, mv_I c, mv_I d, mv_I e, mv_U]) (st' := [mv_I 5, mv_I 1, mv_I 2]) (M1 := (mv_st (mv_st (mv_st (mv_st M 29 (mv_up (M 29) t a)) 28 (mv_up (M 28) 1 ((t + 1 : Nat) : Int))) 29 (mv_up (mv_up (M 29) t a) (t + 1) b)) 28 (mv_up (mv_up (M 28) 1 ((t + 1 : Nat) : Int)) 1 ((t + 2 : Nat) : Int)))) rfl ?_
              have ha63 : (1 : Int) ≤ (2 : Int) ∧ (2 : Int) ≤ (5 : Int) := by omega
              refine mv_callPW (st2 := [mv_I 1]) rfl (Or.inr rfl) rfl rfl rfl (sp_min_t ha63) (by first | decide | omega) ?_
              refine mv_goW 1 (pc' := if 1 = 0 then 47 else 9) (ls' := [mv_R 100, mv_I 2, mv_I a, mv_I b, mv_I c, mv_I d, mv_I e, mv_U]) (st' := []) (M1 := (mv_st (mv_st (mv_st (mv_st M 29 (mv_up (M 29) t a)) 28 (mv_up (M 28) 1 ((t + 1 : Nat) : Int))) 29 (mv_up (mv_up (M 29) t a) (t + 1) b)) 28 (mv_up (mv_up (M 28) 1 ((t + 1 : Nat) : Int)) 1 ((t + 2 : Nat) : Int)))) rfl ?_
              refine mv_ffW (by decide) ?_
              refine mv_goW 1 (pc' := 10) (ls' := [mv_R 100, mv_I 2, mv_I a, mv_I b, mv_I c, mv_I d, mv_I e, mv_U]) (st' := [mv_I a]) (M1 := (mv_st (mv_st (mv_st (mv_st M 29 (mv_up (M 29) t a)) 28 (mv_up (M 28) 1 ((t + 1 : Nat) : Int))) 29 (mv_up (mv_up (M 29) t a) (t + 1) b)) 28 (mv_up (mv_up (M 28) 1 ((t + 1 : Nat) : Int)) 1 ((t + 2 : Nat) : Int)))) rfl ?_
              have ha64 : 0 ≤ a ∧ a ≤ 255 := by omega
              refine mv_callPW (st2 := [mv_I 1]) rfl (Or.inr rfl) rfl rfl rfl (sp_mby_t ha64) (by first | decide | omega) ?_
              refine mv_goW 1 (pc' := if 1 = 0 then 47 else 16) (ls' := [mv_R 100, mv_I 2, mv_I a, mv_I b, mv_I c, mv_I d, mv_I e, mv_U]) (st' := []) (M1 := (mv_st (mv_st (mv_st (mv_st M 29 (mv_up (M 29) t a)) 28 (mv_up (M 28) 1 ((t + 1 : Nat) : Int))) 29 (mv_up (mv_up (M 29) t a) (t + 1) b)) 28 (mv_up (mv_up (M 28) 1 ((t + 1 : Nat) : Int)) 1 ((t + 2 : Nat) : Int)))) rfl ?_
              refine mv_ffW (by decide) ?_
              refine mv_goW 1 (pc' := 17) (ls' := [mv_R 100, mv_I 2, mv_I a, mv_I b, mv_I c, mv_I d, mv_I e, mv_U]) (st' := [mv_I b]) (M1 := (mv_st (mv_st (mv_st (mv_st M 29 (mv_up (M 29) t a)) 28 (mv_up (M 28) 1 ((t + 1 : Nat) : Int))) 29 (mv_up (mv_up (M 29) t a) (t + 1) b)) 28 (mv_up (mv_up (M 28) 1 ((t + 1 : Nat) : Int)) 1 ((t + 2 : Nat) : Int)))) rfl ?_
              have ha65 : 0 ≤ b ∧ b ≤ 255 := by omega
              refine mv_callPW (st2 := [mv_I 1]) rfl (Or.inr rfl) rfl rfl rfl (sp_mby_t ha65) (by first | decide | omega) ?_
              refine mv_goW 1 (pc' := if 1 = 0 then 47 else 23) (ls' := [mv_R 100, mv_I 2, mv_I a, mv_I b, mv_I c, mv_I d, mv_I e, mv_U]) (st' := []) (M1 := (mv_st (mv_st (mv_st (mv_st M 29 (mv_up (M 29) t a)) 28 (mv_up (M 28) 1 ((t + 1 : Nat) : Int))) 29 (mv_up (mv_up (M 29) t a) (t + 1) b)) 28 (mv_up (mv_up (M 28) 1 ((t + 1 : Nat) : Int)) 1 ((t + 2 : Nat) : Int)))) rfl ?_
              refine mv_ffW (by decide) ?_
              refine mv_goW 1 (pc' := 25) (ls' := [mv_R 100, mv_I 2, mv_I a, mv_I b, mv_I c, mv_I d, mv_I e, mv_U]) (st' := [mv_I c]) (M1 := (mv_st (mv_st (mv_st (mv_st M 29 (mv_up (M 29) t a)) 28 (mv_up (M 28) 1 ((t + 1 : Nat) : Int))) 29 (mv_up (mv_up (M 29) t a) (t + 1) b)) 28 (mv_up (mv_up (M 28) 1 ((t + 1 : Nat) : Int)) 1 ((t + 2 : Nat) : Int)))) rfl ?_
              have ha66 : 0 ≤ c ∧ c ≤ 255 := by omega
              refine mv_callPW (st2 := [mv_I 1]) rfl (Or.inr rfl) rfl rfl rfl (sp_mby_t ha66) (by first | decide | omega) ?_
              refine mv_goW 1 (pc' := if 1 = 0 then 47 else 31) (ls' := [mv_R 100, mv_I 2, mv_I a, mv_I b, mv_I c, mv_I d, mv_I e, mv_U]) (st' := []) (M1 := (mv_st (mv_st (mv_st (mv_st M 29 (mv_up (M 29) t a)) 28 (mv_up (M 28) 1 ((t + 1 : Nat) : Int))) 29 (mv_up (mv_up (M 29) t a) (t + 1) b)) 28 (mv_up (mv_up (M 28) 1 ((t + 1 : Nat) : Int)) 1 ((t + 2 : Nat) : Int)))) rfl ?_
              refine mv_ffW (by decide) ?_
              refine mv_goW 1 (pc' := 33) (ls' := [mv_R 100, mv_I 2, mv_I a, mv_I b, mv_I c, mv_I d, mv_I e, mv_U]) (st' := [mv_I d]) (M1 := (mv_st (mv_st (mv_st (mv_st M 29 (mv_up (M 29) t a)) 28 (mv_up (M 28) 1 ((t + 1 : Nat) : Int))) 29 (mv_up (mv_up (M 29) t a) (t + 1) b)) 28 (mv_up (mv_up (M 28) 1 ((t + 1 : Nat) : Int)) 1 ((t + 2 : Nat) : Int)))) rfl ?_
              have ha67 : 0 ≤ d ∧ d ≤ 255 := by omega
              refine mv_callPW (st2 := [mv_I 1]) rfl (Or.inr rfl) rfl rfl rfl (sp_mby_t ha67) (by first | decide | omega) ?_
              refine mv_goW 1 (pc' := if 1 = 0 then 47 else 39) (ls' := [mv_R 100, mv_I 2, mv_I a, mv_I b, mv_I c, mv_I d, mv_I e, mv_U]) (st' := []) (M1 := (mv_st (mv_st (mv_st (mv_st M 29 (mv_up (M 29) t a)) 28 (mv_up (M 28) 1 ((t + 1 : Nat) : Int))) 29 (mv_up (mv_up (M 29) t a) (t + 1) b)) 28 (mv_up (mv_up (M 28) 1 ((t + 1 : Nat) : Int)) 1 ((t + 2 : Nat) : Int)))) rfl ?_
              refine mv_ffW (by decide) ?_
              refine mv_goW 1 (pc' := 41) (ls' := [mv_R 100, mv_I 2, mv_I a, mv_I b, mv_I c, mv_I d, mv_I e, mv_U]) (st' := [mv_I e]) (M1 := (mv_st (mv_st (mv_st (mv_st M 29 (mv_up (M 29) t a)) 28 (mv_up (M 28) 1 ((t + 1 : Nat) : Int))) 29 (mv_up (mv_up (M 29) t a) (t + 1) b)) 28 (mv_up (mv_up (M 28) 1 ((t + 1 : Nat) : Int)) 1 ((t + 2 : Nat) : Int)))) rfl ?_
              have ha68 : 0 ≤ e ∧ e ≤ 255 := by omega
              refine mv_callPW (st2 := [mv_I 1]) rfl (Or.inr rfl) rfl rfl rfl (sp_mby_t ha68) (by first | decide | omega) ?_
              refine mv_goW 1 (pc' := if 1 = 0 then 47 else 50) (ls' := [mv_R 100, mv_I 2, mv_I a, mv_I b, mv_I c, mv_I d, mv_I e, mv_U]) (st' := []) (M1 := (mv_st (mv_st (mv_st (mv_st M 29 (mv_up (M 29) t a)) 28 (mv_up (M 28) 1 ((t + 1 : Nat) : Int))) 29 (mv_up (mv_up (M 29) t a) (t + 1) b)) 28 (mv_up (mv_up (M 28) 1 ((t + 1 : Nat) : Int)) 1 ((t + 2 : Nat) : Int)))) rfl ?_
              refine mv_ffW (by decide) ?_
              refine mv_goW 2 (pc' := 54) (ls' := [mv_R 100, mv_I 2, mv_I a, mv_I b, mv_I c, mv_I d, mv_I e, mv_U]) (st' := [mv_I (M 100 9)]) (M1 := (mv_st (mv_st (mv_st (mv_st M 29 (mv_up (M 29) t a)) 28 (mv_up (M 28) 1 ((t + 1 : Nat) : Int))) 29 (mv_up (mv_up (M 29) t a) (t + 1) b)) 28 (mv_up (mv_up (M 28) 1 ((t + 1 : Nat) : Int)) 1 ((t + 2 : Nat) : Int)))) rfl ?_
              rw [show M 100 9 = (t : Int) from by exact htp.2.1]
              refine mv_goW 4 (pc' := if 160 < (mv_w ((t : Int) + 2)) then 62 else 65) (ls' := [mv_R 100, mv_I 2, mv_I a, mv_I b, mv_I c, mv_I d, mv_I e, mv_U]) (st' := []) (M1 := (mv_st (mv_st (mv_st (mv_st M 29 (mv_up (M 29) t a)) 28 (mv_up (M 28) 1 ((t + 1 : Nat) : Int))) 29 (mv_up (mv_up (M 29) t a) (t + 1) b)) 28 (mv_up (mv_up (M 28) 1 ((t + 1 : Nat) : Int)) 1 ((t + 2 : Nat) : Int)))) rfl ?_
              rw [show mv_w ((t : Int) + 2) = (t : Int) + 2 from mv_w_id (by omega) (by omega)]
              refine mv_ffW (by omega) ?_
              refine mv_goW 5 (pc' := if 0 < 2 then 74 else 142) (ls' := [mv_R 100, mv_I 2, mv_I a, mv_I b, mv_I c, mv_I d, mv_I e, mv_I 0]) (st' := []) (M1 := (mv_st (mv_st (mv_st (mv_st M 29 (mv_up (M 29) t a)) 28 (mv_up (M 28) 1 ((t + 1 : Nat) : Int))) 29 (mv_up (mv_up (M 29) t a) (t + 1) b)) 28 (mv_up (mv_up (M 28) 1 ((t + 1 : Nat) : Int)) 1 ((t + 2 : Nat) : Int)))) rfl ?_
              refine mv_ttW (by decide) ?_
              refine mv_goW 4 (pc' := 82) (ls' := [mv_R 100, mv_I 2, mv_I a, mv_I b, mv_I c, mv_I d, mv_I e, mv_I 0]) (st' := [mv_I (M 100 9), mv_R 108]) (M1 := (mv_st (mv_st (mv_st (mv_st M 29 (mv_up (M 29) t a)) 28 (mv_up (M 28) 1 ((t + 1 : Nat) : Int))) 29 (mv_up (mv_up (M 29) t a) (t + 1) b)) 28 (mv_up (mv_up (M 28) 1 ((t + 1 : Nat) : Int)) 1 ((t + 2 : Nat) : Int)))) rfl ?_
              rw [show M 100 9 = (t : Int) from by exact htp.2.1]
              refine mv_goW 2 (pc' := if 0 = 0 then 87 else 91) (ls' := [mv_R 100, mv_I 2, mv_I a, mv_I b, mv_I c, mv_I d, mv_I e, mv_I 0]) (st' := [mv_I (t : Int), mv_R 108]) (M1 := (mv_st (mv_st (mv_st (mv_st M 29 (mv_up (M 29) t a)) 28 (mv_up (M 28) 1 ((t + 1 : Nat) : Int))) 29 (mv_up (mv_up (M 29) t a) (t + 1) b)) 28 (mv_up (mv_up (M 28) 1 ((t + 1 : Nat) : Int)) 1 ((t + 2 : Nat) : Int)))) rfl ?_
              refine mv_ttW (by decide) ?_
              refine mv_goW 3 (pc' := if 0 ≤ (t : Int) ∧ (t : Int) < 160 then 126 else mv_bad) (ls' := [mv_R 100, mv_I 2, mv_I a, mv_I b, mv_I c, mv_I d, mv_I e, mv_I 0]) (st' := []) (M1 := (mv_st (mv_st (mv_st (mv_st (mv_st M 29 (mv_up (M 29) t a)) 28 (mv_up (M 28) 1 ((t + 1 : Nat) : Int))) 29 (mv_up (mv_up (M 29) t a) (t + 1) b)) 28 (mv_up (mv_up (M 28) 1 ((t + 1 : Nat) : Int)) 1 ((t + 2 : Nat) : Int))) 108 (mv_up (M 108) t a))) rfl ?_
              refine mv_ttW (by omega) ?_
              refine mv_goW 3 (pc' := 131) (ls' := [mv_R 100, mv_I 2, mv_I a, mv_I b, mv_I c, mv_I d, mv_I e, mv_I 0]) (st' := [mv_I (M 100 9), mv_R 100]) (M1 := (mv_st (mv_st (mv_st (mv_st (mv_st M 29 (mv_up (M 29) t a)) 28 (mv_up (M 28) 1 ((t + 1 : Nat) : Int))) 29 (mv_up (mv_up (M 29) t a) (t + 1) b)) 28 (mv_up (mv_up (M 28) 1 ((t + 1 : Nat) : Int)) 1 ((t + 2 : Nat) : Int))) 108 (mv_up (M 108) t a))) rfl ?_
              rw [show M 100 9 = (t : Int) from by exact htp.2.1]
              refine mv_goW 2 (pc' := 133) (ls' := [mv_R 100, mv_I 2, mv_I a, mv_I b, mv_I c, mv_I d, mv_I e, mv_I 0]) (st' := [mv_I (mv_w ((t : Int) + 1)), mv_R 100]) (M1 := (mv_st (mv_st (mv_st (mv_st (mv_st M 29 (mv_up (M 29) t a)) 28 (mv_up (M 28) 1 ((t + 1 : Nat) : Int))) 29 (mv_up (mv_up (M 29) t a) (t + 1) b)) 28 (mv_up (mv_up (M 28) 1 ((t + 1 : Nat) : Int)) 1 ((t + 2 : Nat) : Int))) 108 (mv_up (M 108) t a))) rfl ?_
              rw [show mv_w ((t : Int) + 1) = (t : Int) + 1 from mv_w_id (by omega) (by omega)]
              rw [show (t : Int) + 1 = ((t + 1 : Nat) : Int) from by omega]
              refine mv_goW 6 (pc' := if (mv_w (0 + 1)) < 2 then 74 else 142) (ls' := [mv_R 100, mv_I 2, mv_I a, mv_I b, mv_I c, mv_I d, mv_I e, mv_I (mv_w (0 + 1))]) (st' := []) (M1 := (mv_st (mv_st (mv_st (mv_st (mv_st (mv_st M 29 (mv_up (M 29) t a)) 28 (mv_up (M 28) 1 ((t + 1 : Nat) : Int))) 29 (mv_up (mv_up (M 29) t a) (t + 1) b)) 28 (mv_up (mv_up (M 28) 1 ((t + 1 : Nat) : Int)) 1 ((t + 2 : Nat) : Int))) 108 (mv_up (M 108) t a)) 100 (mv_up (M 100) 9 ((t + 1 : Nat) : Int)))) rfl ?_
              rw [show mv_w (0 + 1) = 0 + 1 from mv_w_id (by omega) (by omega)]
              refine mv_ttW (by decide) ?_
              refine mv_goW 6 (pc' := if (0 + 1) = 0 then 87 else 91) (ls' := [mv_R 100, mv_I 2, mv_I a, mv_I b, mv_I c, mv_I d, mv_I e, mv_I (0 + 1)]) (st' := [mv_I ((t + 1 : Nat) : Int), mv_R 108]) (M1 := (mv_st (mv_st (mv_st (mv_st (mv_st (mv_st M 29 (mv_up (M 29) t a)) 28 (mv_up (M 28) 1 ((t + 1 : Nat) : Int))) 29 (mv_up (mv_up (M 29) t a) (t + 1) b)) 28 (mv_up (mv_up (M 28) 1 ((t + 1 : Nat) : Int)) 1 ((t + 2 : Nat) : Int))) 108 (mv_up (M 108) t a)) 100 (mv_up (M 100) 9 ((t + 1 : Nat) : Int)))) rfl ?_
              refine mv_ffW (by decide) ?_
              refine mv_goW 3 (pc' := if (0 + 1) = 1 then 97 else 101) (ls' := [mv_R 100, mv_I 2, mv_I a, mv_I b, mv_I c, mv_I d, mv_I e, mv_I (0 + 1)]) (st' := [mv_I ((t + 1 : Nat) : Int), mv_R 108]) (M1 := (mv_st (mv_st (mv_st (mv_st (mv_st (mv_st M 29 (mv_up (M 29) t a)) 28 (mv_up (M 28) 1 ((t + 1 : Nat) : Int))) 29 (mv_up (mv_up (M 29) t a) (t + 1) b)) 28 (mv_up (mv_up (M 28) 1 ((t + 1 : Nat) : Int)) 1 ((t + 2 : Nat) : Int))) 108 (mv_up (M 108) t a)) 100 (mv_up (M 100) 9 ((t + 1 : Nat) : Int)))) rfl ?_
              refine mv_ttW (by decide) ?_
              refine mv_goW 3 (pc' := if 0 ≤ ((t + 1 : Nat) : Int) ∧ ((t + 1 : Nat) : Int) < 160 then 126 else mv_bad) (ls' := [mv_R 100, mv_I 2, mv_I a, mv_I b, mv_I c, mv_I d, mv_I e, mv_I (0 + 1)]) (st' := []) (M1 := (mv_st (mv_st (mv_st (mv_st (mv_st (mv_st (mv_st M 29 (mv_up (M 29) t a)) 28 (mv_up (M 28) 1 ((t + 1 : Nat) : Int))) 29 (mv_up (mv_up (M 29) t a) (t + 1) b)) 28 (mv_up (mv_up (M 28) 1 ((t + 1 : Nat) : Int)) 1 ((t + 2 : Nat) : Int))) 108 (mv_up (M 108) t a)) 100 (mv_up (M 100) 9 ((t + 1 : Nat) : Int))) 108 (mv_up (mv_up (M 108) t a) (t + 1) b))) rfl ?_
              refine mv_ttW (by omega) ?_
              refine mv_goW 5 (pc' := 133) (ls' := [mv_R 100, mv_I 2, mv_I a, mv_I b, mv_I c, mv_I d, mv_I e, mv_I (0 + 1)]) (st' := [mv_I (mv_w (((t + 1 : Nat) : Int) + 1)), mv_R 100]) (M1 := (mv_st (mv_st (mv_st (mv_st (mv_st (mv_st (mv_st M 29 (mv_up (M 29) t a)) 28 (mv_up (M 28) 1 ((t + 1 : Nat) : Int))) 29 (mv_up (mv_up (M 29) t a) (t + 1) b)) 28 (mv_up (mv_up (M 28) 1 ((t + 1 : Nat) : Int)) 1 ((t + 2 : Nat) : Int))) 108 (mv_up (M 108) t a)) 100 (mv_up (M 100) 9 ((t + 1 : Nat) : Int))) 108 (mv_up (mv_up (M 108) t a) (t + 1) b))) rfl ?_
              rw [show mv_w (((t + 1 : Nat) : Int) + 1) = ((t + 1 : Nat) : Int) + 1 from mv_w_id (by omega) (by omega)]
              rw [show ((t + 1 : Nat) : Int) + 1 = ((t + 2 : Nat) : Int) from by omega]
              refine mv_goW 6 (pc' := if (mv_w ((0 + 1) + 1)) < 2 then 74 else 142) (ls' := [mv_R 100, mv_I 2, mv_I a, mv_I b, mv_I c, mv_I d, mv_I e, mv_I (mv_w ((0 + 1) + 1))]) (st' := []) (M1 := (mv_st (mv_st (mv_st (mv_st (mv_st (mv_st (mv_st (mv_st M 29 (mv_up (M 29) t a)) 28 (mv_up (M 28) 1 ((t + 1 : Nat) : Int))) 29 (mv_up (mv_up (M 29) t a) (t + 1) b)) 28 (mv_up (mv_up (M 28) 1 ((t + 1 : Nat) : Int)) 1 ((t + 2 : Nat) : Int))) 108 (mv_up (M 108) t a)) 100 (mv_up (M 100) 9 ((t + 1 : Nat) : Int))) 108 (mv_up (mv_up (M 108) t a) (t + 1) b)) 100 (mv_up (mv_up (M 100) 9 ((t + 1 : Nat) : Int)) 9 ((t + 2 : Nat) : Int)))) rfl ?_
              rw [show mv_w ((0 + 1) + 1) = (0 + 1) + 1 from mv_w_id (by omega) (by omega)]
              refine mv_ffW (by decide) ?_
              refine mv_goW 2 (pc' := 146) (ls' := [mv_R 100, mv_I 2, mv_I a, mv_I b, mv_I c, mv_I d, mv_I e, mv_I ((0 + 1) + 1)]) (st' := [mv_I ((t + 2 : Nat) : Int)]) (M1 := (mv_st (mv_st (mv_st (mv_st (mv_st (mv_st (mv_st (mv_st M 29 (mv_up (M 29) t a)) 28 (mv_up (M 28) 1 ((t + 1 : Nat) : Int))) 29 (mv_up (mv_up (M 29) t a) (t + 1) b)) 28 (mv_up (mv_up (M 28) 1 ((t + 1 : Nat) : Int)) 1 ((t + 2 : Nat) : Int))) 108 (mv_up (M 108) t a)) 100 (mv_up (M 100) 9 ((t + 1 : Nat) : Int))) 108 (mv_up (mv_up (M 108) t a) (t + 1) b)) 100 (mv_up (mv_up (M 100) 9 ((t + 1 : Nat) : Int)) 9 ((t + 2 : Nat) : Int)))) rfl ?_
              exact mv_retW (fun n => rfl) ⟨congrArg mv_I (by first | with_reducible rfl | omega), sp_fd_end (t2 := t + 2) h (fun i q1 q2 q3 q4 => by simp only [mv_st_n _ _ q1, mv_st_n _ _ q2, mv_st_n _ _ q3, mv_st_n _ _ q4]) rfl rfl (by omega) ⟨rfl, rfl, rfl, rfl, rfl, rfl⟩ (show ∀ j, j < t + 2 → mv_up (mv_up (M 29) t a) (t + 1) b j = mv_up (mv_up (M 108) t a) (t + 1) b j ∧ 0 ≤ mv_up (mv_up (M 29) t a) (t + 1) b j ∧ mv_up (mv_up (M 29) t a) (t + 1) b j ≤ 255 from sp_ub (sp_ub (htp.2.2.2) (by omega)) (by omega))⟩
          · refine mv_callPW (st2 := [mv_I 0]) rfl (Or.inr rfl) rfl rfl rfl (sp_cby_f ha51) (by first | decide | omega) ?_
            refine mv_goW 1 (pc' := if 0 = 0 then 48 else 51) (ls' := [mv_R 0, mv_I 2, mv_I a, mv_I b, mv_I c, mv_I d, mv_I e, mv_U]) (st' := []) (M1 := M) rfl ?_
            refine mv_ttW (by decide) ?_
            refine mv_goW 1 (pc' := 50) (ls' := [mv_R 0, mv_I 2, mv_I a, mv_I b, mv_I c, mv_I d, mv_I e, mv_U]) (st' := [mv_I (-2)]) (M1 := M) rfl ?_
            refine mv_retW (fun n => rfl) ⟨_, rfl, ?_⟩
            refine mv_goW 3 (pc' := 3) (ls' := [mv_R 100, mv_I 2, mv_I a, mv_I b, mv_I c, mv_I d, mv_I e, mv_U]) (st' := [mv_I 5, mv_I 1, mv_I 2]) (M1 := M) rfl ?_
            have ha69 : (1 : Int) ≤ (2 : Int) ∧ (2 : Int) ≤ (5 : Int) := by omega
            refine mv_callPW (st2 := [mv_I 1]) rfl (Or.inr rfl) rfl rfl rfl (sp_min_t ha69) (by first | decide | omega) ?_
            refine mv_goW 1 (pc' := if 1 = 0 then 47 else 9) (ls' := [mv_R 100, mv_I 2, mv_I a, mv_I b, mv_I c, mv_I d, mv_I e, mv_U]) (st' := []) (M1 := M) rfl ?_
            refine mv_ffW (by decide) ?_
            refine mv_goW 1 (pc' := 10) (ls' := [mv_R 100, mv_I 2, mv_I a, mv_I b, mv_I c, mv_I d, mv_I e, mv_U]) (st' := [mv_I a]) (M1 := M) rfl ?_
            have ha70 : 0 ≤ a ∧ a ≤ 255 := by omega
            refine mv_callPW (st2 := [mv_I 1]) rfl (Or.inr rfl) rfl rfl rfl (sp_mby_t ha70) (by first | decide | omega) ?_
            refine mv_goW 1 (pc' := if 1 = 0 then 47 else 16) (ls' := [mv_R 100, mv_I 2, mv_I a, mv_I b, mv_I c, mv_I d, mv_I e, mv_U]) (st' := []) (M1 := M) rfl ?_
            refine mv_ffW (by decide) ?_
            refine mv_goW 1 (pc' := 17) (ls' := [mv_R 100, mv_I 2, mv_I a, mv_I b, mv_I c, mv_I d, mv_I e, mv_U]) (st' := [mv_I b]) (M1 := M) rfl ?_
            have ha71 : 0 ≤ b ∧ b ≤ 255 := by omega
            refine mv_callPW (st2 := [mv_I 1]) rfl (Or.inr rfl) rfl rfl rfl (sp_mby_t ha71) (by first | decide | omega) ?_
            refine mv_goW 1 (pc' := if 1 = 0 then 47 else 23) (ls' := [mv_R 100, mv_I 2, mv_I a, mv_I b, mv_I c, mv_I d, mv_I e, mv_U]) (st' := []) (M1 := M) rfl ?_
            refine mv_ffW (by decide) ?_
            refine mv_goW 1 (pc' := 25) (ls' := [mv_R 100, mv_I 2, mv_I a, mv_I b, mv_I c, mv_I d, mv_I e, mv_U]) (st' := [mv_I c]) (M1 := M) rfl ?_
            have ha72 : 0 ≤ c ∧ c ≤ 255 := by omega
            refine mv_callPW (st2 := [mv_I 1]) rfl (Or.inr rfl) rfl rfl rfl (sp_mby_t ha72) (by first | decide | omega) ?_
            refine mv_goW 1 (pc' := if 1 = 0 then 47 else 31) (ls' := [mv_R 100, mv_I 2, mv_I a, mv_I b, mv_I c, mv_I d, mv_I e, mv_U]) (st' := []) (M1 := M) rfl ?_
            refine mv_ffW (by decide) ?_
            refine mv_goW 1 (pc' := 33) (ls' := [mv_R 100, mv_I 2, mv_I a, mv_I b, mv_I c, mv_I d, mv_I e, mv_U]) (st' := [mv_I d]) (M1 := M) rfl ?_
            have ha73 : 0 ≤ d ∧ d ≤ 255 := by omega
            refine mv_callPW (st2 := [mv_I 1]) rfl (Or.inr rfl) rfl rfl rfl (sp_mby_t ha73) (by first | decide | omega) ?_
            refine mv_goW 1 (pc' := if 1 = 0 then 47 else 39) (ls' := [mv_R 100, mv_I 2, mv_I a, mv_I b, mv_I c, mv_I d, mv_I e, mv_U]) (st' := []) (M1 := M) rfl ?_
            refine mv_ffW (by decide) ?_
            refine mv_goW 1 (pc' := 41) (ls' := [mv_R 100, mv_I 2, mv_I a, mv_I b, mv_I c, mv_I d, mv_I e, mv_U]) (st' := [mv_I e]) (M1 := M) rfl ?_
            have ha74 : ¬ (0 ≤ e ∧ e ≤ 255) := by omega
            refine mv_callPW (st2 := [mv_I 0]) rfl (Or.inr rfl) rfl rfl rfl (sp_mby_f ha74) (by first | decide | omega) ?_
            refine mv_goW 1 (pc' := if 0 = 0 then 47 else 50) (ls' := [mv_R 100, mv_I 2, mv_I a, mv_I b, mv_I c, mv_I d, mv_I e, mv_U]) (st' := []) (M1 := M) rfl ?_
            refine mv_ttW (by decide) ?_
            refine mv_goW 1 (pc' := 49) (ls' := [mv_R 100, mv_I 2, mv_I a, mv_I b, mv_I c, mv_I d, mv_I e, mv_U]) (st' := [mv_I (-2)]) (M1 := M) rfl ?_
            exact mv_retW (fun n => rfl) ⟨congrArg mv_I (by first | with_reducible rfl | omega), hI⟩
        · refine mv_callPW (st2 := [mv_I 0]) rfl (Or.inr rfl) rfl rfl rfl (sp_cby_f ha50) (by first | decide | omega) ?_
          refine mv_goW 1 (pc' := if 0 = 0 then 48 else 40) (ls' := [mv_R 0, mv_I 2, mv_I a, mv_I b, mv_I c, mv_I d, mv_I e, mv_U]) (st' := []) (M1 := M) rfl ?_
          refine mv_ttW (by decide) ?_
          refine mv_goW 1 (pc' := 50) (ls' := [mv_R 0, mv_I 2, mv_I a, mv_I b, mv_I c, mv_I d, mv_I e, mv_U]) (st' := [mv_I (-2)]) (M1 := M) rfl ?_
          refine mv_retW (fun n => rfl) ⟨_, rfl, ?_⟩
          refine mv_goW 3 (pc' := 3) (ls' := [mv_R 100, mv_I 2, mv_I a, mv_I b, mv_I c, mv_I d, mv_I e, mv_U]) (st' := [mv_I 5, mv_I 1, mv_I 2]) (M1 := M) rfl ?_
          have ha75 : (1 : Int) ≤ (2 : Int) ∧ (2 : Int) ≤ (5 : Int) := by omega
          refine mv_callPW (st2 := [mv_I 1]) rfl (Or.inr rfl) rfl rfl rfl (sp_min_t ha75) (by first | decide | omega) ?_
          refine mv_goW 1 (pc' := if 1 = 0 then 47 else 9) (ls' := [mv_R 100, mv_I 2, mv_I a, mv_I b, mv_I c, mv_I d, mv_I e, mv_U]) (st' := []) (M1 := M) rfl ?_
          refine mv_ffW (by decide) ?_
          refine mv_goW 1 (pc' := 10) (ls' := [mv_R 100, mv_I 2, mv_I a, mv_I b, mv_I c, mv_I d, mv_I e, mv_U]) (st' := [mv_I a]) (M1 := M) rfl ?_
          have ha76 : 0 ≤ a ∧ a ≤ 255 := by omega
          refine mv_callPW (st2 := [mv_I 1]) rfl (Or.inr rfl) rfl rfl rfl (sp_mby_t ha76) (by first | decide | omega) ?_
          refine mv_goW 1 (pc' := if 1 = 0 then 47 else 16) (ls' := [mv_R 100, mv_I 2, mv_I a, mv_I b, mv_I c, mv_I d, mv_I e, mv_U]) (st' := []) (M1 := M) rfl ?_
          refine mv_ffW (by decide) ?_
          refine mv_goW 1 (pc' := 17) (ls' := [mv_R 100, mv_I 2, mv_I a, mv_I b, mv_I c, mv_I d, mv_I e, mv_U]) (st' := [mv_I b]) (M1 := M) rfl ?_
          have ha77 : 0 ≤ b ∧ b ≤ 255 := by omega
          refine mv_callPW (st2 := [mv_I 1]) rfl (Or.inr rfl) rfl rfl rfl (sp_mby_t ha77) (by first | decide | omega) ?_
          refine mv_goW 1 (pc' := if 1 = 0 then 47 else 23) (ls' := [mv_R 100, mv_I 2, mv_I a, mv_I b, mv_I c, mv_I d, mv_I e, mv_U]) (st' := []) (M1 := M) rfl ?_
          refine mv_ffW (by decide) ?_
          refine mv_goW 1 (pc' := 25) (ls' := [mv_R 100, mv_I 2, mv_I a, mv_I b, mv_I c, mv_I d, mv_I e, mv_U]) (st' := [mv_I c]) (M1 := M) rfl ?_
          have ha78 : 0 ≤ c ∧ c ≤ 255 := by omega
          refine mv_callPW (st2 := [mv_I 1]) rfl (Or.inr rfl) rfl rfl rfl (sp_mby_t ha78) (by first | decide | omega) ?_
          refine mv_goW 1 (pc' := if 1 = 0 then 47 else 31) (ls' := [mv_R 100, mv_I 2, mv_I a, mv_I b, mv_I c, mv_I d, mv_I e, mv_U]) (st' := []) (M1 := M) rfl ?_
          refine mv_ffW (by decide) ?_
          refine mv_goW 1 (pc' := 33) (ls' := [mv_R 100, mv_I 2, mv_I a, mv_I b, mv_I c, mv_I d, mv_I e, mv_U]) (st' := [mv_I d]) (M1 := M) rfl ?_
          have ha79 : ¬ (0 ≤ d ∧ d ≤ 255) := by omega
          refine mv_callPW (st2 := [mv_I 0]) rfl (Or.inr rfl) rfl rfl rfl (sp_mby_f ha79) (by first | decide | omega) ?_
          refine mv_goW 1 (pc' := if 0 = 0 then 47 else 39) (ls' := [mv_R 100, mv_I 2, mv_I a, mv_I b, mv_I c, mv_I d, mv_I e, mv_U]) (st' := []) (M1 := M) rfl ?_
          refine mv_ttW (by decide) ?_
          refine mv_goW 1 (pc' := 49) (ls' := [mv_R 100, mv_I 2, mv_I a, mv_I b, mv_I c, mv_I d, mv_I e, mv_U]) (st' := [mv_I (-2)]) (M1 := M) rfl ?_
          exact mv_retW (fun n => rfl) ⟨congrArg mv_I (by first | with_reducible rfl | omega), hI⟩
      · refine mv_callPW (st2 := [mv_I 0]) rfl (Or.inr rfl) rfl rfl rfl (sp_cby_f ha49) (by first | decide | omega) ?_
        refine mv_goW 1 (pc' := if 0 = 0 then 48 else 32) (ls' := [mv_R 0, mv_I 2, mv_I a, mv_I b, mv_I c, mv_I d, mv_I e, mv_U]) (st' := []) (M1 := M) rfl ?_
        refine mv_ttW (by decide) ?_
        refine mv_goW 1 (pc' := 50) (ls' := [mv_R 0, mv_I 2, mv_I a, mv_I b, mv_I c, mv_I d, mv_I e, mv_U]) (st' := [mv_I (-2)]) (M1 := M) rfl ?_
        refine mv_retW (fun n => rfl) ⟨_, rfl, ?_⟩
        refine mv_goW 3 (pc' := 3) (ls' := [mv_R 100, mv_I 2, mv_I a, mv_I b, mv_I c, mv_I d, mv_I e, mv_U]) (st' := [mv_I 5, mv_I 1, mv_I 2]) (M1 := M) rfl ?_
        have ha80 : (1 : Int) ≤ (2 : Int) ∧ (2 : Int) ≤ (5 : Int) := by omega
        refine mv_callPW (st2 := [mv_I 1]) rfl (Or.inr rfl) rfl rfl rfl (sp_min_t ha80) (by first | decide | omega) ?_
        refine mv_goW 1 (pc' := if 1 = 0 then 47 else 9) (ls' := [mv_R 100, mv_I 2, mv_I a, mv_I b, mv_I c, mv_I d, mv_I e, mv_U]) (st' := []) (M1 := M) rfl ?_
        refine mv_ffW (by decide) ?_
        refine mv_goW 1 (pc' := 10) (ls' := [mv_R 100, mv_I 2, mv_I a, mv_I b, mv_I c, mv_I d, mv_I e, mv_U]) (st' := [mv_I a]) (M1 := M) rfl ?_
        have ha81 : 0 ≤ a ∧ a ≤ 255 := by omega
        refine mv_callPW (st2 := [mv_I 1]) rfl (Or.inr rfl) rfl rfl rfl (sp_mby_t ha81) (by first | decide | omega) ?_
        refine mv_goW 1 (pc' := if 1 = 0 then 47 else 16) (ls' := [mv_R 100, mv_I 2, mv_I a, mv_I b, mv_I c, mv_I d, mv_I e, mv_U]) (st' := []) (M1 := M) rfl ?_
        refine mv_ffW (by decide) ?_
        refine mv_goW 1 (pc' := 17) (ls' := [mv_R 100, mv_I 2, mv_I a, mv_I b, mv_I c, mv_I d, mv_I e, mv_U]) (st' := [mv_I b]) (M1 := M) rfl ?_
        have ha82 : 0 ≤ b ∧ b ≤ 255 := by omega
        refine mv_callPW (st2 := [mv_I 1]) rfl (Or.inr rfl) rfl rfl rfl (sp_mby_t ha82) (by first | decide | omega) ?_
        refine mv_goW 1 (pc' := if 1 = 0 then 47 else 23) (ls' := [mv_R 100, mv_I 2, mv_I a, mv_I b, mv_I c, mv_I d, mv_I e, mv_U]) (st' := []) (M1 := M) rfl ?_
        refine mv_ffW (by decide) ?_
        refine mv_goW 1 (pc' := 25) (ls' := [mv_R 100, mv_I 2, mv_I a, mv_I b, mv_I c, mv_I d, mv_I e, mv_U]) (st' := [mv_I c]) (M1 := M) rfl ?_
        have ha83 : ¬ (0 ≤ c ∧ c ≤ 255) := by omega
        refine mv_callPW (st2 := [mv_I 0]) rfl (Or.inr rfl) rfl rfl rfl (sp_mby_f ha83) (by first | decide | omega) ?_
        refine mv_goW 1 (pc' := if 0 = 0 then 47 else 31) (ls' := [mv_R 100, mv_I 2, mv_I a, mv_I b, mv_I c, mv_I d, mv_I e, mv_U]) (st' := []) (M1 := M) rfl ?_
        refine mv_ttW (by decide) ?_
        refine mv_goW 1 (pc' := 49) (ls' := [mv_R 100, mv_I 2, mv_I a, mv_I b, mv_I c, mv_I d, mv_I e, mv_U]) (st' := [mv_I (-2)]) (M1 := M) rfl ?_
        exact mv_retW (fun n => rfl) ⟨congrArg mv_I (by first | with_reducible rfl | omega), hI⟩
    · refine mv_callPW (st2 := [mv_I 0]) rfl (Or.inr rfl) rfl rfl rfl (sp_cby_f ha48) (by first | decide | omega) ?_
      refine mv_goW 1 (pc' := if 0 = 0 then 48 else 24) (ls' := [mv_R 0, mv_I 2, mv_I a, mv_I b, mv_I c, mv_I d, mv_I e, mv_U]) (st' := []) (M1 := M) rfl ?_
      refine mv_ttW (by decide) ?_
      refine mv_goW 1 (pc' := 50) (ls' := [mv_R 0, mv_I 2, mv_I a, mv_I b, mv_I c, mv_I d, mv_I e, mv_U]) (st' := [mv_I (-2)]) (M1 := M) rfl ?_
      refine mv_retW (fun n => rfl) ⟨_, rfl, ?_⟩
      refine mv_goW 3 (pc' := 3) (ls' := [mv_R 100, mv_I 2, mv_I a, mv_I b, mv_I c, mv_I d, mv_I e, mv_U]) (st' := [mv_I 5, mv_I 1, mv_I 2]) (M1 := M) rfl ?_
      have ha84 : (1 : Int) ≤ (2 : Int) ∧ (2 : Int) ≤ (5 : Int) := by omega
      refine mv_callPW (st2 := [mv_I 1]) rfl (Or.inr rfl) rfl rfl rfl (sp_min_t ha84) (by first | decide | omega) ?_
      refine mv_goW 1 (pc' := if 1 = 0 then 47 else 9) (ls' := [mv_R 100, mv_I 2, mv_I a, mv_I b, mv_I c, mv_I d, mv_I e, mv_U]) (st' := []) (M1 := M) rfl ?_
      refine mv_ffW (by decide) ?_
      refine mv_goW 1 (pc' := 10) (ls' := [mv_R 100, mv_I 2, mv_I a, mv_I b, mv_I c, mv_I d, mv_I e, mv_U]) (st' := [mv_I a]) (M1 := M) rfl ?_
      have ha85 : 0 ≤ a ∧ a ≤ 255 := by omega
      refine mv_callPW (st2 := [mv_I 1]) rfl (Or.inr rfl) rfl rfl rfl (sp_mby_t ha85) (by first | decide | omega) ?_
      refine mv_goW 1 (pc' := if 1 = 0 then 47 else 16) (ls' := [mv_R 100, mv_I 2, mv_I a, mv_I b, mv_I c, mv_I d, mv_I e, mv_U]) (st' := []) (M1 := M) rfl ?_
      refine mv_ffW (by decide) ?_
      refine mv_goW 1 (pc' := 17) (ls' := [mv_R 100, mv_I 2, mv_I a, mv_I b, mv_I c, mv_I d, mv_I e, mv_U]) (st' := [mv_I b]) (M1 := M) rfl ?_
      have ha86 : ¬ (0 ≤ b ∧ b ≤ 255) := by omega
      refine mv_callPW (st2 := [mv_I 0]) rfl (Or.inr rfl) rfl rfl rfl (sp_mby_f ha86) (by first | decide | omega) ?_
      refine mv_goW 1 (pc' := if 0 = 0 then 47 else 23) (ls' := [mv_R 100, mv_I 2, mv_I a, mv_I b, mv_I c, mv_I d, mv_I e, mv_U]) (st' := []) (M1 := M) rfl ?_
      refine mv_ttW (by decide) ?_
      refine mv_goW 1 (pc' := 49) (ls' := [mv_R 100, mv_I 2, mv_I a, mv_I b, mv_I c, mv_I d, mv_I e, mv_U]) (st' := [mv_I (-2)]) (M1 := M) rfl ?_
      exact mv_retW (fun n => rfl) ⟨congrArg mv_I (by first | with_reducible rfl | omega), hI⟩
  · refine mv_callPW (st2 := [mv_I 0]) rfl (Or.inr rfl) rfl rfl rfl (sp_cby_f ha47) (by first | decide | omega) ?_
    refine mv_goW 1 (pc' := if 0 = 0 then 48 else 17) (ls' := [mv_R 0, mv_I 2, mv_I a, mv_I b, mv_I c, mv_I d, mv_I e, mv_U]) (st' := []) (M1 := M) rfl ?_
    refine mv_ttW (by decide) ?_
    refine mv_goW 1 (pc' := 50) (ls' := [mv_R 0, mv_I 2, mv_I a, mv_I b, mv_I c, mv_I d, mv_I e, mv_U]) (st' := [mv_I (-2)]) (M1 := M) rfl ?_
    refine mv_retW (fun n => rfl) ⟨_, rfl, ?_⟩
    refine mv_goW 3 (pc' := 3) (ls' := [mv_R 100, mv_I 2, mv_I a, mv_I b, mv_I c, mv_I d, mv_I e, mv_U]) (st' := [mv_I 5, mv_I 1, mv_I 2]) (M1 := M) rfl ?_
    have ha87 : (1 : Int) ≤ (2 : Int) ∧ (2 : Int) ≤ (5 : Int) := by omega
    refine mv_callPW (st2 := [mv_I 1]) rfl (Or.inr rfl) rfl rfl rfl (sp_min_t ha87) (by first | decide | omega) ?_
    refine mv_goW 1 (pc' := if 1 = 0 then 47 else 9) (ls' := [mv_R 100, mv_I 2, mv_I a, mv_I b, mv_I c, mv_I d, mv_I e, mv_U]) (st' := []) (M1 := M) rfl ?_
    refine mv_ffW (by decide) ?_
    refine mv_goW 1 (pc' := 10) (ls' := [mv_R 100, mv_I 2, mv_I a, mv_I b, mv_I c, mv_I d, mv_I e, mv_U]) (st' := [mv_I a]) (M1 := M) rfl ?_
    have ha88 : ¬ (0 ≤ a ∧ a ≤ 255) := by omega
    refine mv_callPW (st2 := [mv_I 0]) rfl (Or.inr rfl) rfl rfl rfl (sp_mby_f ha88) (by first | decide | omega) ?_
    refine mv_goW 1 (pc' := if 0 = 0 then 47 else 16) (ls' := [mv_R 100, mv_I 2, mv_I a, mv_I b, mv_I c, mv_I d, mv_I e, mv_U]) (st' := []) (M1 := M) rfl ?_
    refine mv_ttW (by decide) ?_
    refine mv_goW 1 (pc' := 49) (ls' := [mv_R 100, mv_I 2, mv_I a, mv_I b, mv_I c, mv_I d, mv_I e, mv_U]) (st' := [mv_I (-2)]) (M1 := M) rfl ?_
    exact mv_retW (fun n => rfl) ⟨congrArg mv_I (by first | with_reducible rfl | omega), hI⟩
theorem sp_k2_3 (a b c d e : Int) : sp_call 63 125 [mv_I 3, mv_I a, mv_I b, mv_I c, mv_I d, mv_I e] [mv_I 3, mv_I a, mv_I b, mv_I c, mv_I d, mv_I e] := by
  refine sp_mkW (lc := [mv_R 0, mv_I 3, mv_I a, mv_I b, mv_I c, mv_I d, mv_I e, mv_U]) (lm := [mv_R 100, mv_I 3, mv_I a, mv_I b, mv_I c, mv_I d, mv_I e, mv_U]) rfl rfl (fun M hI => ?_)
  have hI2 := hI
  obtain ⟨V, P, n, B, K, t, h⟩ := hI2
  have h' := h
  obtain ⟨_, _, _, _, htp, _⟩ := h'
  have ht28 := htp.1
  have ht160 := htp.2.2.1
  refine mv_goW 3 (pc' := if 3 < 1 then 48 else 5) (ls' := [mv_R 0, mv_I 3, mv_I a, mv_I b, mv_I c, mv_I d, mv_I e, mv_U]) (st' := []) (M1 := M) rfl ?_
  refine mv_ffW (by decide) ?_
  refine mv_goW 3 (pc' := if 5 < 3 then 48 else 10) (ls' := [mv_R 0, mv_I 3, mv_I a, mv_I b, mv_I c, mv_I d, mv_I e, mv_U]) (st' := []) (M1 := M) rfl ?_
  refine mv_ffW (by decide) ?_
  refine mv_goW 1 (pc' := 11) (ls' := [mv_R 0, mv_I 3, mv_I a, mv_I b, mv_I c, mv_I d, mv_I e, mv_U]) (st' := [mv_I a]) (M1 := M) rfl ?_
  by_cases ha89 : 0 ≤ a ∧ a ≤ 255
  · refine mv_callPW (st2 := [mv_I 1]) rfl (Or.inr rfl) rfl rfl rfl (sp_cby_t ha89) (by first | decide | omega) ?_
    refine mv_goW 1 (pc' := if 1 = 0 then 48 else 17) (ls' := [mv_R 0, mv_I 3, mv_I a, mv_I b, mv_I c, mv_I d, mv_I e, mv_U]) (st' := []) (M1 := M) rfl ?_
    refine mv_ffW (by decide) ?_
    refine mv_goW 1 (pc' := 18) (ls' := [mv_R 0, mv_I 3, mv_I a, mv_I b, mv_I c, mv_I d, mv_I e, mv_U]) (st' := [mv_I b]) (M1 := M) rfl ?_
    by_cases ha90 : 0 ≤ b ∧ b ≤ 255
    · refine mv_callPW (st2 := [mv_I 1]) rfl (Or.inr rfl) rfl rfl rfl (sp_cby_t ha90) (by first | decide | omega) ?_
      refine mv_goW 1 (pc' := if 1 = 0 then 48 else 24) (ls' := [mv_R 0, mv_I 3, mv_I a, mv_I b, mv_I c, mv_I d, mv_I e, mv_U]) (st' := []) (M1 := M) rfl ?_
      refine mv_ffW (by decide) ?_
      refine mv_goW 1 (pc' := 26) (ls' := [mv_R 0, mv_I 3, mv_I a, mv_I b, mv_I c, mv_I d, mv_I e, mv_U]) (st' := [mv_I c]) (M1 := M) rfl ?_
      by_cases ha91 : 0 ≤ c ∧ c ≤ 255
      · refine mv_callPW (st2 := [mv_I 1]) rfl (Or.inr rfl) rfl rfl rfl (sp_cby_t ha91) (by first | decide | omega) ?_
        refine mv_goW 1 (pc' := if 1 = 0 then 48 else 32) (ls' := [mv_R 0, mv_I 3, mv_I a, mv_I b, mv_I c, mv_I d, mv_I e, mv_U]) (st' := []) (M1 := M) rfl ?_
        refine mv_ffW (by decide) ?_
        refine mv_goW 1 (pc' := 34) (ls' := [mv_R 0, mv_I 3, mv_I a, mv_I b, mv_I c, mv_I d, mv_I e, mv_U]) (st' := [mv_I d]) (M1 := M) rfl ?_
        by_cases ha92 : 0 ≤ d ∧ d ≤ 255
        · refine mv_callPW (st2 := [mv_I 1]) rfl (Or.inr rfl) rfl rfl rfl (sp_cby_t ha92) (by first | decide | omega) ?_
          refine mv_goW 1 (pc' := if 1 = 0 then 48 else 40) (ls' := [mv_R 0, mv_I 3, mv_I a, mv_I b, mv_I c, mv_I d, mv_I e, mv_U]) (st' := []) (M1 := M) rfl ?_
          refine mv_ffW (by decide) ?_
          refine mv_goW 1 (pc' := 42) (ls' := [mv_R 0, mv_I 3, mv_I a, mv_I b, mv_I c, mv_I d, mv_I e, mv_U]) (st' := [mv_I e]) (M1 := M) rfl ?_
          by_cases ha93 : 0 ≤ e ∧ e ≤ 255
          · refine mv_callPW (st2 := [mv_I 1]) rfl (Or.inr rfl) rfl rfl rfl (sp_cby_t ha93) (by first | decide | omega) ?_
            refine mv_goW 1 (pc' := if 1 = 0 then 48 else 51) (ls' := [mv_R 0, mv_I 3, mv_I a, mv_I b, mv_I c, mv_I d, mv_I e, mv_U]) (st' := []) (M1 := M) rfl ?_
            refine mv_ffW (by decide) ?_
            refine mv_goW 3 (pc' := 58) (ls' := [mv_R 0, mv_I 3, mv_I a, mv_I b, mv_I c, mv_I d, mv_I e, mv_U]) (st' := [mv_I (M 28 1)]) (M1 := M) rfl ?_
            rw [show M 28 1 = (t : Int) from by exact htp.1]
            refine mv_goW 4 (pc' := if 160 < (mv_w ((t : Int) + 3)) then 66 else 69) (ls' := [mv_R 0, mv_I 3, mv_I a, mv_I b, mv_I c, mv_I d, mv_I e, mv_U]) (st' := []) (M1 := M) rfl ?_
            rw [show mv_w ((t : Int) + 3) = (t : Int) + 3 from mv_w_id (by omega) (by omega)]
            refine mv_spW (fun ha94 => ?_) (fun ha94 => ?_)
            · refine mv_goW 1 (pc' := 68) (ls' := [mv_R 0, mv_I 3, mv_I a, mv_I b, mv_I c, mv_I d, mv_I e, mv_U]) (st' := [mv_I (-4)]) (M1 := M) rfl ?_
              refine mv_retW (fun n => rfl) ⟨_, rfl, ?_⟩
              refine mv_goW 3 (pc' := 3) (ls' := [mv_R 100, mv_I 3, mv_I a, mv_I b, mv_I c, mv_I d, mv_I e, mv_U]) (st' := [mv_I 5, mv_I 1, mv_I 3]) (M1 := M) rfl ?_
              have ha95 : (1 : Int) ≤ (3 : Int) ∧ (3 : Int) ≤ (5 : Int) := by omega
              refine mv_callPW (st2 := [mv_I 1]) rfl (Or.inr rfl) rfl rfl rfl (sp_min_t ha95) (by first | decide | omega) ?_
              refine mv_goW 1 (pc' := if 1 = 0 then 47 else 9) (ls' := [mv_R 100, mv_I 3, mv_I a, mv_I b, mv_I c, mv_I d, mv_I e, mv_U]) (st' := []) (M1 := M) rfl ?_
              refine mv_ffW (by decide) ?_
              refine mv_goW 1 (pc' := 10) (ls' := [mv_R 100, mv_I 3, mv_I a, mv_I b, mv_I c, mv_I d, mv_I e, mv_U]) (st' := [mv_I a]) (M1 := M) rfl ?_
              have ha96 : 0 ≤ a ∧ a ≤ 255 := by omega
              refine mv_callPW (st2 := [mv_I 1]) rfl (Or.inr rfl) rfl rfl rfl (sp_mby_t ha96) (by first | decide | omega) ?_
              refine mv_goW 1 (pc' := if 1 = 0 then 47 else 16) (ls' := [mv_R 100, mv_I 3, mv_I a, mv_I b, mv_I c, mv_I d, mv_I e, mv_U]) (st' := []) (M1 := M) rfl ?_
              refine mv_ffW (by decide) ?_
              refine mv_goW 1 (pc' := 17) (ls' := [mv_R 100, mv_I 3, mv_I a, mv_I b, mv_I c, mv_I d, mv_I e, mv_U]) (st' := [mv_I b]) (M1 := M) rfl ?_
              have ha97 : 0 ≤ b ∧ b ≤ 255 := by omega
              refine mv_callPW (st2 := [mv_I 1]) rfl (Or.inr rfl) rfl rfl rfl (sp_mby_t ha97) (by first | decide | omega) ?_
              refine mv_goW 1 (pc' := if 1 = 0 then 47 else 23) (ls' := [mv_R 100, mv_I 3, mv_I a, mv_I b, mv_I c, mv_I d, mv_I e, mv_U]) (st' := []) (M1 := M) rfl ?_
              refine mv_ffW (by decide) ?_
              refine mv_goW 1 (pc' := 25) (ls' := [mv_R 100, mv_I 3, mv_I a, mv_I b, mv_I c, mv_I d, mv_I e, mv_U]) (st' := [mv_I c]) (M1 := M) rfl ?_
              have ha98 : 0 ≤ c ∧ c ≤ 255 := by omega
              refine mv_callPW (st2 := [mv_I 1]) rfl (Or.inr rfl) rfl rfl rfl (sp_mby_t ha98) (by first | decide | omega) ?_
              refine mv_goW 1 (pc' := if 1 = 0 then 47 else 31) (ls' := [mv_R 100, mv_I 3, mv_I a, mv_I b, mv_I c, mv_I d, mv_I e, mv_U]) (st' := []) (M1 := M) rfl ?_
              refine mv_ffW (by decide) ?_
              refine mv_goW 1 (pc' := 33) (ls' := [mv_R 100, mv_I 3, mv_I a, mv_I b, mv_I c, mv_I d, mv_I e, mv_U]) (st' := [mv_I d]) (M1 := M) rfl ?_
              have ha99 : 0 ≤ d ∧ d ≤ 255 := by omega
              refine mv_callPW (st2 := [mv_I 1]) rfl (Or.inr rfl) rfl rfl rfl (sp_mby_t ha99) (by first | decide | omega) ?_
              refine mv_goW 1 (pc' := if 1 = 0 then 47 else 39) (ls' := [mv_R 100, mv_I 3, mv_I a, mv_I b, mv_I c, mv_I d, mv_I e, mv_U]) (st' := []) (M1 := M) rfl ?_
              refine mv_ffW (by decide) ?_
              refine mv_goW 1 (pc' := 41) (ls' := [mv_R 100, mv_I 3, mv_I a, mv_I b, mv_I c, mv_I d, mv_I e, mv_U]) (st' := [mv_I e]) (M1 := M) rfl ?_
              have ha100 : 0 ≤ e ∧ e ≤ 255 := by omega
              refine mv_callPW (st2 := [mv_I 1]) rfl (Or.inr rfl) rfl rfl rfl (sp_mby_t ha100) (by first | decide | omega) ?_
              refine mv_goW 1 (pc' := if 1 = 0 then 47 else 50) (ls' := [mv_R 100, mv_I 3, mv_I a, mv_I b, mv_I c, mv_I d, mv_I e, mv_U]) (st' := []) (M1 := M) rfl ?_
              refine mv_ffW (by decide) ?_
              refine mv_goW 2 (pc' := 54) (ls' := [mv_R 100, mv_I 3, mv_I a, mv_I b, mv_I c, mv_I d, mv_I e, mv_U]) (st' := [mv_I (M 100 9)]) (M1 := M) rfl ?_
              rw [show M 100 9 = (t : Int) from by exact htp.2.1]
              refine mv_goW 4 (pc' := if 160 < (mv_w ((t : Int) + 3)) then 62 else 65) (ls' := [mv_R 100, mv_I 3, mv_I a, mv_I b, mv_I c, mv_I d, mv_I e, mv_U]) (st' := []) (M1 := M) rfl ?_
              rw [show mv_w ((t : Int) + 3) = (t : Int) + 3 from mv_w_id (by omega) (by omega)]
              refine mv_ttW (by omega) ?_
              refine mv_goW 1 (pc' := 64) (ls' := [mv_R 100, mv_I 3, mv_I a, mv_I b, mv_I c, mv_I d, mv_I e, mv_U]) (st' := [mv_I (-4)]) (M1 := M) rfl ?_
              exact mv_retW (fun n => rfl) ⟨congrArg mv_I (by first | with_reducible rfl | omega), hI⟩
            · refine mv_goW 5 (pc' := if 0 < 3 then 78 else 134) (ls' := [mv_R 0, mv_I 3, mv_I a, mv_I b, mv_I c, mv_I d, mv_I e, mv_I 0]) (st' := []) (M1 := M) rfl ?_
              refine mv_ttW (by decide) ?_
              refine mv_goW 4 (pc' := if 0 = 0 then 87 else 91) (ls' := [mv_R 0, mv_I 3, mv_I a, mv_I b, mv_I c, mv_I d, mv_I e, mv_I 0]) (st' := [mv_R 28]) (M1 := M) rfl ?_
              refine mv_ttW (by decide) ?_
              refine mv_goW 2 (pc' := 125) (ls' := [mv_R 0, mv_I 3, mv_I a, mv_I b, mv_I c, mv_I d, mv_I e, mv_I 0]) (st' := [mv_I a, mv_R 28]) (M1 := M) rfl ?_
              refine mv_callW (st2 := []) rfl (Or.inl rfl) rfl rfl rfl (sp_app (t := t) (by first | exact ht28 | rfl) (by omega)) (by first | decide | omega) (fun Ma101 hm102 => ?_)
              subst hm102
              refine mv_goW 5 (pc' := if (mv_w (0 + 1)) < 3 then 78 else 134) (ls' := [mv_R 0, mv_I 3, mv_I a, mv_I b, mv_I c, mv_I d, mv_I e, mv_I (mv_w (0 + 1))]) (st' := []) (M1 := (mv_st (mv_st M 29 (mv_up (M 29) t a)) 28 (mv_up (M 28) 1 ((t + 1 : Nat) : Int)))) rfl ?_
              rw [show mv_w (0 + 1) = 0 + 1 from mv_w_id (by omega) (by omega)]
              refine mv_ttW (by decide) ?_
              refine mv_goW 4 (pc' := if (0 + 1) = 0 then 87 else 91) (ls' := [mv_R 0, mv_I 3, mv_I a, mv_I b, mv_I c, mv_I d, mv_I e, mv_I (0 + 1)]) (st' := [mv_R 28]) (M1 := (mv_st (mv_st M 29 (mv_up (M 29) t a)) 28 (mv_up (M 28) 1 ((t + 1 : Nat) : Int)))) rfl ?_
              refine mv_ffW (by decide) ?_
              refine mv_goW 3 (pc' := if (0 + 1) = 1 then 97 else 101) (ls' := [mv_R 0, mv_I 3, mv_I a, mv_I b, mv_I c, mv_I d, mv_I e, mv_I (0 + 1)]) (st' := [mv_R 28]) (M1 := (mv_st (mv_st M 29 (mv_up (M 29) t a)) 28 (mv_up (M 28) 1 ((t + 1 : Nat) : Int)))) rfl ?_
              refine mv_ttW (by decide) ?_
              refine mv_goW 2 (pc' := 125) (ls' := [mv_R 0, mv_I 3, mv_I a, mv_I b, mv_I c, mv_I d, mv_I e, mv_I (0 + 1)]) (st' := [mv_I b, mv_R 28]) (M1 := (mv_st (mv_st M 29 (mv_up (M 29) t a)) 28 (mv_up (M 28) 1 ((t + 1 : Nat) : Int)))) rfl ?_
              refine mv_callW (st2 := []) rfl (Or.inl rfl) rfl rfl rfl (sp_app (t := t + 1) (by first | exact ht28 | rfl) (by omega)) (by first | decide | omega) (fun Ma103 hm104 => ?_)
              subst hm104
              refine mv_goW 5 (pc' := if (mv_w ((0 + 1) + 1)) < 3 then 78 else 134) (ls' := [mv_R 0, mv_I 3, mv_I a, mv_I b, mv_I c, mv_I d, mv_I e, mv_I (mv_w ((0 + 1) + 1))]) (st' := []) (M1 := (mv_st (mv_st (mv_st (mv_st M 29 (mv_up (M 29) t a)) 28 (mv_up (M 28) 1 ((t + 1 : Nat) : Int))) 29 (mv_up (mv_up (M 29) t a) (t + 1) b)) 28 (mv_up (mv_up (M 28) 1 ((t + 1 : Nat) : Int)) 1 ((t + 2 : Nat) : Int)))) rfl ?_
              rw [show mv_w ((0 + 1) + 1) = (0 + 1) + 1 from mv_w_id (by omega) (by omega)]
              refine mv_ttW (by decide) ?_
              refine mv_goW 4 (pc' := if ((0 + 1) + 1) = 0 then 87 else 91) (ls' := [mv_R 0, mv_I 3, mv_I a, mv_I b, mv_I c, mv_I d, mv_I e, mv_I ((0 + 1) + 1)]) (st' := [mv_R 28]) (M1 := (mv_st (mv_st (mv_st (mv_st M 29 (mv_up (M 29) t a)) 28 (mv_up (M 28) 1 ((t + 1 : Nat) : Int))) 29 (mv_up (mv_up (M 29) t a) (t + 1) b)) 28 (mv_up (mv_up (M 28) 1 ((t + 1 : Nat) : Int)) 1 ((t + 2 : Nat) : Int)))) rfl ?_
              refine mv_ffW (by decide) ?_
              refine mv_goW 3 (pc' := if ((0 + 1) + 1) = 1 then 97 else 101) (ls' := [mv_R 0, mv_I 3, mv_I a, mv_I b, mv_I c, mv_I d, mv_I e, mv_I ((0 + 1) + 1)]) (st' := [mv_R 28]) (M1 := (mv_st (mv_st (mv_st (mv_st M 29 (mv_up (M 29) t a)) 28 (mv_up (M 28) 1 ((t + 1 : Nat) : Int))) 29 (mv_up (mv_up (M 29) t a) (t + 1) b)) 28 (mv_up (mv_up (M 28) 1 ((t + 1 : Nat) : Int)) 1 ((t + 2 : Nat) : Int)))) rfl ?_
              refine mv_ffW (by decide) ?_
              refine mv_goW 3 (pc' := if ((0 + 1) + 1) = 2 then 107 else 112) (ls' := [mv_R 0, mv_I 3, mv_I a, mv_I b, mv_I c, mv_I d, mv_I e, mv_I ((0 + 1) + 1)]) (st' := [mv_R 28]) (M1 := (mv_st (mv_st (mv_st (mv_st M 29 (mv_up (M 29) t a)) 28 (mv_up (M 28) 1 ((t + 1 : Nat) : Int))) 29 (mv_up (mv_up (M 29) t a) (t + 1) b)) 28 (mv_up (mv_up (M 28) 1 ((t + 1 : Nat) : Int)) 1 ((t + 2 : Nat) : Int)))) rfl ?_
              refine mv_ttW (by decide) ?_
              refine mv_goW 2 (pc' := 125) (ls' := [mv_R 0, mv_I 3, mv_I a, mv_I b, mv_I c, mv_I d, mv_I e, mv_I ((0 + 1) + 1)]) (st' := [mv_I c, mv_R 28]) (M1 := (mv_st (mv_st (mv_st (mv_st M 29 (mv_up (M 29) t a)) 28 (mv_up (M 28) 1 ((t + 1 : Nat) : Int))) 29 (mv_up (mv_up (M 29) t a) (t + 1) b)) 28 (mv_up (mv_up (M 28) 1 ((t + 1 : Nat) : Int)) 1 ((t + 2 : Nat) : Int)))) rfl ?_
              refine mv_callW (st2 := []) rfl (Or.inl rfl) rfl rfl rfl (sp_app (t := t + 2) (by first | exact ht28 | rfl) (by omega)) (by first | decide | omega) (fun Ma105 hm106 => ?_)
              subst hm106
              refine mv_goW 5 (pc' := if (mv_w (((0 + 1) + 1) + 1)) < 3 then 78 else 134) (ls' := [mv_R 0, mv_I 3, mv_I a, mv_I b, mv_I c, mv_I d, mv_I e, mv_I (mv_w (((0 + 1) + 1) + 1))]) (st' := []) (M1 := (mv_st (mv_st (mv_st (mv_st (mv_st (mv_st M 29 (mv_up (M 29) t a)) 28 (mv_up (M 28) 1 ((t + 1 : Nat) : Int))) 29 (mv_up (mv_up (M 29) t a) (t + 1) b)) 28 (mv_up (mv_up (M 28) 1 ((t + 1 : Nat) : Int)) 1 ((t + 2 : Nat) : Int))) 29 (mv_up (mv_up (mv_up (M 29) t a) (t + 1) b) (t + 2) c)) 28 (mv_up (mv_up (mv_up (M 28) 1 ((t + 1 : Nat) : Int)) 1 ((t + 2 : Nat) : Int)) 1 ((t + 3 : Nat) : Int)))) rfl ?_
              rw [show mv_w (((0 + 1) + 1) + 1) = ((0 + 1) + 1) + 1 from mv_w_id (by omega) (by omega)]
              refine mv_ffW (by decide) ?_
              refine mv_goW 3 (pc' := 141) (ls' := [mv_R 0, mv_I 3, mv_I a, mv_I b, mv_I c, mv_I d, mv_I e, mv_I (((0 + 1) + 1) + 1)]) (st' := [mv_I ((t + 3 : Nat) : Int)]) (M1 := (mv_st (mv_st (mv_st (mv_st (mv_st (mv_st M 29 (mv_up (M 29) t a)) 28 (mv_up (M 28) 1 ((t + 1 : Nat) : Int))) 29 (mv_up (mv_up (M 29) t a) (t + 1) b)) 28 (mv_up (mv_up (M 28) 1 ((t + 1 : Nat) : Int)) 1 ((t + 2 : Nat) : Int))) 29 (mv_up (mv_up (mv_up (M 29) t a) (t + 1) b) (t + 2) c)) 28 (mv_up (mv_up (mv_up (M 28) 1 ((t + 1 : Nat) : Int)) 1 ((t + 2 : Nat) : Int)) 1 ((t + 3 : Nat) : Int)))) rfl ?_
              refine mv_retW (fun n => rfl) ⟨_, rfl, ?_⟩
              refine mv_goW 3 (pc' := 3) (ls' := [mv_R 100, mv_I 3, mv_I a, mv_I b, mv_I c, mv_I d, mv_I e, mv_U]) (st' := [mv_I 5, mv_I 1, mv_I 3]) (M1 := (mv_st (mv_st (mv_st (mv_st (mv_st (mv_st M 29 (mv_up (M 29) t a)) 28 (mv_up (M 28) 1 ((t + 1 : Nat) : Int))) 29 (mv_up (mv_up (M 29) t a) (t + 1) b)) 28 (mv_up (mv_up (M 28) 1 ((t + 1 : Nat) : Int)) 1 ((t + 2 : Nat) : Int))) 29 (mv_up (mv_up (mv_up (M 29) t a) (t + 1) b) (t + 2) c)) 28 (mv_up (mv_up (mv_up (M 28) 1 ((t + 1 : Nat) : Int)) 1 ((t + 2 : Nat) : Int)) 1 ((t + 3 : Nat) : Int)))) rfl ?_
              have ha107 : (1 : Int) ≤ (3 : Int) ∧ (3 : Int) ≤ (5 : Int) := by omega
              refine mv_callPW (st2 := [mv_I 1]) rfl (Or.inr rfl) rfl rfl rfl (sp_min_t ha107) (by first | decide | omega) ?_
              refine mv_goW 1 (pc' := if 1 = 0 then 47 else 9) (ls' := [mv_R 100, mv_I 3, mv_I a, mv_I b, mv_I c, mv_I d, mv_I e, mv_U]) (st' := []) (M1 := (mv_st (mv_st (mv_st (mv_st (mv_st (mv_st M 29 (mv_up (M 29) t a)) 28 (mv_up (M 28) 1 ((t + 1 : Nat) : Int))) 29 (mv_up (mv_up (M 29) t a) (t + 1) b)) 28 (mv_up (mv_up (M 28) 1 ((t + 1 : Nat) : Int)) 1 ((t + 2 : Nat) : Int))) 29 (mv_up (mv_up (mv_up (M 29) t a) (t + 1) b) (t + 2) c)) 28 (mv_up (mv_up (mv_up (M 28) 1 ((t + 1 : Nat) : Int)) 1 ((t + 2 : Nat) : Int)) 1 ((t + 3 : Nat) : Int)))) rfl ?_
              refine mv_ffW (by decide) ?_
              refine mv_goW 1 (pc' := 10) (ls' := [mv_R 100, mv_I 3, mv_I a, mv_I b, mv_I c, mv_I d, mv_I e, mv_U]) (st' := [mv_I a]) (M1 := (mv_st (mv_st (mv_st (mv_st (mv_st (mv_st M 29 (mv_up (M 29) t a)) 28 (mv_up (M 28) 1 ((t + 1 : Nat) : Int))) 29 (mv_up (mv_up (M 29) t a) (t + 1) b)) 28 (mv_up (mv_up (M 28) 1 ((t + 1 : Nat) : Int)) 1 ((t + 2 : Nat) : Int))) 29 (mv_up (mv_up (mv_up (M 29) t a) (t + 1) b) (t + 2) c)) 28 (mv_up (mv_up (mv_up (M 28) 1 ((t + 1 : Nat) : Int)) 1 ((t + 2 : Nat) : Int)) 1 ((t + 3 : Nat) : Int)))) rfl ?_
              have ha108 : 0 ≤ a ∧ a ≤ 255 := by omega
              refine mv_callPW (st2 := [mv_I 1]) rfl (Or.inr rfl) rfl rfl rfl (sp_mby_t ha108) (by first | decide | omega) ?_
              refine mv_goW 1 (pc' := if 1 = 0 then 47 else 16) (ls' := [mv_R 100, mv_I 3, mv_I a, mv_I b, mv_I c, mv_I d, mv_I e, mv_U]) (st' := []) (M1 := (mv_st (mv_st (mv_st (mv_st (mv_st (mv_st M 29 (mv_up (M 29) t a)) 28 (mv_up (M 28) 1 ((t + 1 : Nat) : Int))) 29 (mv_up (mv_up (M 29) t a) (t + 1) b)) 28 (mv_up (mv_up (M 28) 1 ((t + 1 : Nat) : Int)) 1 ((t + 2 : Nat) : Int))) 29 (mv_up (mv_up (mv_up (M 29) t a) (t + 1) b) (t + 2) c)) 28 (mv_up (mv_up (mv_up (M 28) 1 ((t + 1 : Nat) : Int)) 1 ((t + 2 : Nat) : Int)) 1 ((t + 3 : Nat) : Int)))) rfl ?_
              refine mv_ffW (by decide) ?_
              refine mv_goW 1 (pc' := 17) (ls' := [mv_R 100, mv_I 3, mv_I a, mv_I b, mv_I c, mv_I d, mv_I e, mv_U]) (st' := [mv_I b]) (M1 := (mv_st (mv_st (mv_st (mv_st (mv_st (mv_st M 29 (mv_up (M 29) t a)) 28 (mv_up (M 28) 1 ((t + 1 : Nat) : Int))) 29 (mv_up (mv_up (M 29) t a) (t + 1) b)) 28 (mv_up (mv_up (M 28) 1 ((t + 1 : Nat) : Int)) 1 ((t + 2 : Nat) : Int))) 29 (mv_up (mv_up (mv_up (M 29) t a) (t + 1) b) (t + 2) c)) 28 (mv_up (mv_up (mv_up (M 28) 1 ((t + 1 : Nat) : Int)) 1 ((t + 2 : Nat) : Int)) 1 ((t + 3 : Nat) : Int)))) rfl ?_
              have ha109 : 0 ≤ b ∧ b ≤ 255 := by omega
              refine mv_callPW (st2 := [mv_I 1]) rfl (Or.inr rfl) rfl rfl rfl (sp_mby_t ha109) (by first | decide | omega) ?_
              refine mv_goW 1 (pc' := if 1 = 0 then 47 else 23) (ls' := [mv_R 100, mv_I 3, mv_I a, mv_I b, mv_I c, mv_I d, mv_I e, mv_U]) (st' := []) (M1 := (mv_st (mv_st (mv_st (mv_st (mv_st (mv_st M 29 (mv_up (M 29) t a)) 28 (mv_up (M 28) 1 ((t + 1 : Nat) : Int))) 29 (mv_up (mv_up (M 29) t a) (t + 1) b)) 28 (mv_up (mv_up (M 28) 1 ((t + 1 : Nat) : Int)) 1 ((t + 2 : Nat) : Int))) 29 (mv_up (mv_up (mv_up (M 29) t a) (t + 1) b) (t + 2) c)) 28 (mv_up (mv_up (mv_up (M 28) 1 ((t + 1 : Nat) : Int)) 1 ((t + 2 : Nat) : Int)) 1 ((t + 3 : Nat) : Int)))) rfl ?_
              refine mv_ffW (by decide) ?_
              refine mv_goW 1 (pc' := 25) (ls' := [mv_R 100, mv_I 3, mv_I a, mv_I b, mv_I c, mv_I d, mv_I e, mv_U]) (st' := [mv_I c]) (M1 := (mv_st (mv_st (mv_st (mv_st (mv_st (mv_st M 29 (mv_up (M 29) t a)) 28 (mv_up (M 28) 1 ((t + 1 : Nat) : Int))) 29 (mv_up (mv_up (M 29) t a) (t + 1) b)) 28 (mv_up (mv_up (M 28) 1 ((t + 1 : Nat) : Int)) 1 ((t + 2 : Nat) : Int))) 29 (mv_up (mv_up (mv_up (M 29) t a) (t + 1) b) (t + 2) c)) 28 (mv_up (mv_up (mv_up (M 28) 1 ((t + 1 : Nat) : Int)) 1 ((t + 2 : Nat) : Int)) 1 ((t + 3 : Nat) : Int)))) rfl ?_
              have ha110 : 0 ≤ c ∧ c ≤ 255 := by omega
              refine mv_callPW (st2 := [mv_I 1]) rfl (Or.inr rfl) rfl rfl rfl (sp_mby_t ha110) (by first | decide | omega) ?_
              refine mv_goW 1 (pc' := if 1 = 0 then 47 else 31) (ls' := [mv_R 100, mv_I 3, mv_I a, mv_I b, mv_I c, mv_I d, mv_I e, mv_U]) (st' := []) (M1 := (mv_st (mv_st (mv_st (mv_st (mv_st (mv_st M 29 (mv_up (M 29) t a)) 28 (mv_up (M 28) 1 ((t + 1 : Nat) : Int))) 29 (mv_up (mv_up (M 29) t a) (t + 1) b)) 28 (mv_up (mv_up (M 28) 1 ((t + 1 : Nat) : Int)) 1 ((t + 2 : Nat) : Int))) 29 (mv_up (mv_up (mv_up (M 29) t a) (t + 1) b) (t + 2) c)) 28 (mv_up (mv_up (mv_up (M 28) 1 ((t + 1 : Nat) : Int)) 1 ((t + 2 : Nat) : Int)) 1 ((t + 3 : Nat) : Int)))) rfl ?_
              refine mv_ffW (by decide) ?_
              refine mv_goW 1 (pc' := 33) (ls' := [mv_R 100, mv_I 3, mv_I a, mv_I b, mv_I c, mv_I d, mv_I e, mv_U]) (st' := [mv_I d]) (M1 := (mv_st (mv_st (mv_st (mv_st (mv_st (mv_st M 29 (mv_up (M 29) t a)) 28 (mv_up (M 28) 1 ((t + 1 : Nat) : Int))) 29 (mv_up (mv_up (M 29) t a) (t + 1) b)) 28 (mv_up (mv_up (M 28) 1 ((t + 1 : Nat) : Int)) 1 ((t + 2 : Nat) : Int))) 29 (mv_up (mv_up (mv_up (M 29) t a) (t + 1) b) (t + 2) c)) 28 (mv_up (mv_up (mv_up (M 28) 1 ((t + 1 : Nat) : Int)) 1 ((t + 2 : Nat) : Int)) 1 ((t + 3 : Nat) : Int)))) rfl ?_
              have ha111 : 0 ≤ d ∧ d ≤ 255 := by omega
              refine mv_callPW (st2 := [mv_I 1]) rfl (Or.inr rfl) rfl rfl rfl (sp_mby_t ha111) (by first | decide | omega) ?_
              refine mv_goW 1 (pc' := if 1 = 0 then 47 else 39) (ls' := [mv_R 100, mv_I 3, mv_I a, mv_I b, mv_I c, mv_I d, mv_I e, mv_U]) (st' := []) (M1 := (mv_st (mv_st (mv_st (mv_st (mv_st (mv_st M 29 (mv_up (M 29) t a)) 28 (mv_up (M 28) 1 ((t + 1 : Nat) : Int))) 29 (mv_up (mv_up (M 29) t a) (t + 1) b)) 28 (mv_up (mv_up (M 28) 1 ((t + 1 : Nat) : Int)) 1 ((t + 2 : Nat) : Int))) 29 (mv_up (mv_up (mv_up (M 29) t a) (t + 1) b) (t + 2) c)) 28 (mv_up (mv_up (mv_up (M 28) 1 ((t + 1 : Nat) : Int)) 1 ((t + 2 : Nat) : Int)) 1 ((t + 3 : Nat) : Int)))) rfl ?_
              refine mv_ffW (by decide) ?_
              refine mv_goW 1 (pc' := 41) (ls' := [mv_R 100, mv_I 3, mv_I a, mv_I b, mv_I c, mv_I d, mv_I e, mv_U]) (st' := [mv_I e]) (M1 := (mv_st (mv_st (mv_st (mv_st (mv_st (mv_st M 29 (mv_up (M 29) t a)) 28 (mv_up (M 28) 1 ((t + 1 : Nat) : Int))) 29 (mv_up (mv_up (M 29) t a) (t + 1) b)) 28 (mv_up (mv_up (M 28) 1 ((t + 1 : Nat) : Int)) 1 ((t + 2 : Nat) : Int))) 29 (mv_up (mv_up (mv_up (M 29) t a) (t + 1) b) (t + 2) c)) 28 (mv_up (mv_up (mv_up (M 28) 1 ((t + 1 : Nat) : Int)) 1 ((t + 2 : Nat) : Int)) 1 ((t + 3 : Nat) : Int)))) rfl ?_
              have ha112 : 0 ≤ e ∧ e ≤ 255 := by omega
              refine mv_callPW (st2 := [mv_I 1]) rfl (Or.inr rfl) rfl rfl rfl (sp_mby_t ha112) (by first | decide | omega) ?_
              refine mv_goW 1 (pc' := if 1 = 0 then 47 else 50) (ls' := [mv_R 100, mv_I 3, mv_I a, mv_I b, mv_I c, mv_I d, mv_I e, mv_U]) (st' := []) (M1 := (mv_st (mv_st (mv_st (mv_st (mv_st (mv_st M 29 (mv_up (M 29) t a)) 28 (mv_up (M 28) 1 ((t + 1 : Nat) : Int))) 29 (mv_up (mv_up (M 29) t a) (t + 1) b)) 28 (mv_up (mv_up (M 28) 1 ((t + 1 : Nat) : Int)) 1 ((t + 2 : Nat) : Int))) 29 (mv_up (mv_up (mv_up (M 29) t a) (t + 1) b) (t + 2) c)) 28 (mv_up (mv_up (mv_up (M 28) 1 ((t + 1 : Nat) : Int)) 1 ((t + 2 : Nat) : Int)) 1 ((t + 3 : Nat) : Int)))) rfl ?_
              refine mv_ffW (by decide) ?_
              refine mv_goW 2 (pc' := 54) (ls' := [mv_R 100, mv_I 3, mv_I a, mv_I b, mv_I c, mv_I d, mv_I e, mv_U]) (st' := [mv_I (M 100 9)]) (M1 := (mv_st (mv_st (mv_st (mv_st (mv_st (mv_st M 29 (mv_up (M 29) t a)) 28 (mv_up (M 28) 1 ((t + 1 : Nat) : Int))) 29 (mv_up (mv_up (M 29) t a) (t + 1) b)) 28 (mv_up (mv_up (M 28) 1 ((t + 1 : Nat) : Int)) 1 ((t + 2 : Nat) : Int))) 29 (mv_up (mv_up (mv_up (M 29) t a) (t + 1) b) (t + 2) c)) 28 (mv_up (mv_up (mv_up (M 28) 1 ((t + 1 : Nat) : Int)) 1 ((t + 2 : Nat) : Int)) 1 ((t + 3 : Nat) : Int)))) rfl ?_
              rw [show M 100 9 = (t : Int) from by exact htp.2.1]
              refine mv_goW 4 (pc' := if 160 < (mv_w ((t : Int) + 3)) then 62 else 65) (ls' := [mv_R 100, mv_I 3, mv_I a, mv_I b, mv_I c, mv_I d, mv_I e, mv_U]) (st' := []) (M1 := (mv_st (mv_st (mv_st (mv_st (mv_st (mv_st M 29 (mv_up (M 29) t a)) 28 (mv_up (M 28) 1 ((t + 1 : Nat) : Int))) 29 (mv_up (mv_up (M 29) t a) (t + 1) b)) 28 (mv_up (mv_up (M 28) 1 ((t + 1 : Nat) : Int)) 1 ((t + 2 : Nat) : Int))) 29 (mv_up (mv_up (mv_up (M 29) t a) (t + 1) b) (t + 2) c)) 28 (mv_up (mv_up (mv_up (M 28) 1 ((t + 1 : Nat) : Int)) 1 ((t + 2 : Nat) : Int)) 1 ((t + 3 : Nat) : Int)))) rfl ?_
              rw [show mv_w ((t : Int) + 3) = (t : Int) + 3 from mv_w_id (by omega) (by omega)]
              refine mv_ffW (by omega) ?_
              refine mv_goW 5 (pc' := if 0 < 3 then 74 else 142) (ls' := [mv_R 100, mv_I 3, mv_I a, mv_I b, mv_I c, mv_I d, mv_I e, mv_I 0]) (st' := []) (M1 := (mv_st (mv_st (mv_st (mv_st (mv_st (mv_st M 29 (mv_up (M 29) t a)) 28 (mv_up (M 28) 1 ((t + 1 : Nat) : Int))) 29 (mv_up (mv_up (M 29) t a) (t + 1) b)) 28 (mv_up (mv_up (M 28) 1 ((t + 1 : Nat) : Int)) 1 ((t + 2 : Nat) : Int))) 29 (mv_up (mv_up (mv_up (M 29) t a) (t + 1) b) (t + 2) c)) 28 (mv_up (mv_up (mv_up (M 28) 1 ((t + 1 : Nat) : Int)) 1 ((t + 2 : Nat) : Int)) 1 ((t + 3 : Nat) : Int)))) rfl ?_
              refine mv_ttW (by decide) ?_
              refine mv_goW 4 (pc' := 82) (ls' := [mv_R 100, mv_I 3, mv_I a, mv_I b, mv_I c, mv_I d, mv_I e, mv_I 0]) (st' := [mv_I (M 100 9), mv_R 108]) (M1 := (mv_st (mv_st (mv_st (mv_st (mv_st (mv_st M 29 (mv_up (M 29) t a)) 28 (mv_up (M 28) 1 ((t + 1 : Nat) : Int))) 29 (mv_up (mv_up (M 29) t a) (t + 1) b)) 28 (mv_up (mv_up (M 28) 1 ((t + 1 : Nat) : Int)) 1 ((t + 2 : Nat) : Int))) 29 (mv_up (mv_up (mv_up (M 29) t a) (t + 1) b) (t + 2) c)) 28 (mv_up (mv_up (mv_up (M 28) 1 ((t + 1 : Nat) : Int)) 1 ((t + 2 : Nat) : Int)) 1 ((t + 3 : Nat) : Int)))) rfl ?_
              rw [show M 100 9 = (t : Int) from by exact htp.2.1]
              refine mv_goW 2 (pc' := if 0 = 0 then 87 else 91) (ls' := [mv_R 100, mv_I 3, mv_I a, mv_I b, mv_I c, mv_I d, mv_I e, mv_I 0]) (st' := [mv_I (t : Int), mv_R 108]) (M1 := (mv_st (mv_st (mv_st (mv_st (mv_st (mv_st M 29 (mv_up (M 29) t a)) 28 (mv_up (M 28) 1 ((t + 1 : Nat) : Int))) 29 (mv_up (mv_up (M 29) t a) (t + 1) b)) 28 (mv_up (mv_up (M 28) 1 ((t + 1 : Nat) : Int)) 1 ((t + 2 : Nat) : Int))) 29 (mv_up (mv_up (mv_up (M 29) t a) (t + 1) b) (t + 2) c)) 28 (mv_up (mv_up (mv_up (M 28) 1 ((t + 1 : Nat) : Int)) 1 ((t + 2 : Nat) : Int)) 1 ((t + 3 : Nat) : Int)))) rfl ?_
              refine mv_ttW (by decide) ?_
              refine mv_goW 3 (pc' := if 0 ≤ (t : Int) ∧ (t : Int) < 160 then 126 else mv_bad) (ls' := [mv_R 100, mv_I 3, mv_I a, mv_I b, mv_I c, mv_I d, mv_I e, mv_I 0]) (st' := []) (M1 := (mv_st (mv_st (mv_st (mv_st (mv_st (mv_st (mv_st M 29 (mv_up (M 29) t a)) 28 (mv_up (M 28) 1 ((t + 1 : Nat) : Int))) 29 (mv_up (mv_up (M 29) t a) (t + 1) b)) 28 (mv_up (mv_up (M 28) 1 ((t + 1 : Nat) : Int)) 1 ((t + 2 : Nat) : Int))) 29 (mv_up (mv_up (mv_up (M 29) t a) (t + 1) b) (t + 2) c)) 28 (mv_up (mv_up (mv_up (M 28) 1 ((t + 1 : Nat) : Int)) 1 ((t + 2 : Nat) : Int)) 1 ((t + 3 : Nat) : Int))) 108 (mv_up (M 108) t a))) rfl ?_
              refine mv_ttW (by omega) ?_
              refine mv_goW 3 (pc' := 131) (ls' := [mv_R 100, mv_I 3, mv_I a, mv_I b, mv_I c, mv_I d, mv_I e, mv_I 0]) (st' := [mv_I (M 100 9), mv_R 100]) (M1 := (mv_st (mv_st (mv_st (mv_st (mv_st (mv_st (mv_st M 29 (mv_up (M 29) t a)) 28 (mv_up (M 28) 1 ((t + 1 : Nat) : Int))) 29 (mv_up (mv_up (M 29) t a) (t + 1) b)) 28 (mv_up (mv_up (M 28) 1 ((t + 1 : Nat) : Int)) 1 ((t + 2 : Nat) : Int))) 29 (mv_up (mv_up (mv_up (M 29) t a) (t + 1) b) (t + 2) c)) 28 (mv_up (mv_up (mv_up (M 28) 1 ((t + 1 : Nat) : Int)) 1 ((t + 2 : Nat) : Int)) 1 ((t + 3 : Nat) : Int))) 108 (mv_up (M 108) t a))) rfl ?_
              rw [show M 100 9 = (t : Int) from by exact htp.2.1]
              refine mv_goW 2 (pc' := 133) (ls' := [mv_R 100, mv_I 3, mv_I a, mv_I b, mv_I c, mv_I d, mv_I e, mv_I 0]) (st' := [mv_I (mv_w ((t : Int) + 1)), mv_R 100]) (M1 := (mv_st (mv_st (mv_st (mv_st (mv_st (mv_st (mv_st M 29 (mv_up (M 29) t a)) 28 (mv_up (M 28) 1 ((t + 1 : Nat) : Int))) 29 (mv_up (mv_up (M 29) t a) (t + 1) b)) 28 (mv_up (mv_up (M 28) 1 ((t + 1 : Nat) : Int)) 1 ((t + 2 : Nat) : Int))) 29 (mv_up (mv_up (mv_up (M 29) t a) (t + 1) b) (t + 2) c)) 28 (mv_up (mv_up (mv_up (M 28) 1 ((t + 1 : Nat) : Int)) 1 ((t + 2 : Nat) : Int)) 1 ((t + 3 : Nat) : Int))) 108 (mv_up (M 108) t a))) rfl ?_
              rw [show mv_w ((t : Int) + 1) = (t : Int) + 1 from mv_w_id (by omega) (by omega)]
              rw [show (t : Int) + 1 = ((t + 1 : Nat) : Int) from by omega]
              refine mv_goW 6 (pc' := if (mv_w (0 + 1)) < 3 then 74 else 142) (ls' := [mv_R 100, mv_I 3, mv_I a, mv_I b, mv_I c, mv_I d, mv_I e, mv_I (mv_w (0 + 1))]) (st' := []) (M1 := (mv_st (mv_st (mv_st (mv_st (mv_st (mv_st (mv_st (mv_st M 29 (mv_up (M 29) t a)) 28 (mv_up (M 28) 1 ((t + 1 : Nat) : Int))) 29 (mv_up (mv_up (M 29) t a) (t + 1) b)) 28 (mv_up (mv_up (M 28) 1 ((t + 1 : Nat) : Int)) 1 ((t + 2 : Nat) : Int))) 29 (mv_up (mv_up (mv_up (M 29) t a) (t + 1) b) (t + 2) c)) 28 (mv_up (mv_up (mv_up (M 28) 1 ((t + 1 : Nat) : Int)) 1 ((t + 2 : Nat) : Int)) 1 ((t + 3 : Nat) : Int))) 108 (mv_up (M 108) t a)) 100 (mv_up (M 100) 9 ((t + 1 : Nat) : Int)))) rfl ?_
              rw [show mv_w (0 + 1) = 0 + 1 from mv_w_id (by omega) (by omega)]
              refine mv_ttW (by decide) ?_
              refine mv_goW 6 (pc' := if (0 + 1) = 0 then 87 else 91) (ls' := [mv_R 100, mv_I 3, mv_I a, mv_I b, mv_I c, mv_I d, mv_I e, mv_I (0 + 1)]) (st' := [mv_I ((t + 1 : Nat) : Int), mv_R 108]) (M1 := (mv_st (mv_st (mv_st (mv_st (mv_st (mv_st (mv_st (mv_st M 29 (mv_up (M 29) t a)) 28 (mv_up (M 28) 1 ((t + 1 : Nat) : Int))) 29 (mv_up (mv_up (M 29) t a) (t + 1) b)) 28 (mv_up (mv_up (M 28) 1 ((t + 1 : Nat) : Int)) 1 ((t + 2 : Nat) : Int))) 29 (mv_up (mv_up (mv_up (M 29) t a) (t + 1) b) (t + 2) c)) 28 (mv_up (mv_up (mv_up (M 28) 1 ((t + 1 : Nat) : Int)) 1 ((t + 2 : Nat) : Int)) 1 ((t + 3 : Nat) : Int))) 108 (mv_up (M 108) t a)) 100 (mv_up (M 100) 9 ((t + 1 : Nat) : Int)))) rfl ?_
              refine mv_ffW (by decide) ?_
              refine mv_goW 3 (pc' := if (0 + 1) = 1 then 97 else 101) (ls' := [mv_R 100, mv_I 3, mv_I a, mv_I b, mv_I c, mv_I d, mv_I e, mv_I (0 + 1)]) (st' := [mv_I ((t + 1 : Nat) : Int), mv_R 108]) (M1 := (mv_st (mv_st (mv_st (mv_st (mv_st (mv_st (mv_st (mv_st M 29 (mv_up (M 29) t a)) 28 (mv_up (M 28) 1 ((t + 1 : Nat) : Int))) 29 (mv_up (mv_up (M 29) t a) (t + 1) b)) 28 (mv_up (mv_up (M 28) 1 ((t + 1 : Nat) : Int)) 1 ((t + 2 : Nat) : Int))) 29 (mv_up (mv_up (mv_up (M 29) t a) (t + 1) b) (t + 2) c)) 28 (mv_up (mv_up (mv_up (M 28) 1 ((t + 1 : Nat) : Int)) 1 ((t + 2 : Nat) : Int)) 1 ((t + 3 : Nat) : Int))) 108 (mv_up (M 108) t a)) 100 (mv_up (M 100) 9 ((t + 1 : Nat) : Int)))) rfl ?_
              refine mv_ttW (by decide) ?_
              refine mv_goW 3 (pc' := if 0 ≤ ((t + 1 : Nat) : Int) ∧ ((t + 1 : Nat) : Int) < 160 then 126 else mv_bad) (ls' := [mv_R 100, mv_I 3, mv_I a, mv_I b, mv_I c, mv_I d, mv_I e, mv_I (0 + 1)]) (st' := []) (M1 := (mv_st (mv_st (mv_st (mv_st (mv_st (mv_st (mv_st (mv_st (mv_st M 29 (mv_up (M 29) t a)) 28 (mv_up (M 28) 1 ((t + 1 : Nat) : Int))) 29 (mv_up (mv_up (M 29) t a) (t + 1) b)) 28 (mv_up (mv_up (M 28) 1 ((t + 1 : Nat) : Int)) 1 ((t + 2 : Nat) : Int))) 29 (mv_up (mv_up (mv_up (M 29) t a) (t + 1) b) (t + 2) c)) 28 (mv_up (mv_up (mv_up (M 28) 1 ((t + 1 : Nat) : Int)) 1 ((t + 2 : Nat) : Int)) 1 ((t + 3 : Nat) : Int))) 108 (mv_up (M 108) t a)) 100 (mv_up (M 100) 9 ((t + 1 : Nat) : Int))) 108 (mv_up (mv_up (M 108) t a) (t + 1) b))) rfl ?_
              refine mv_ttW (by omega) ?_
              refine mv_goW 5 (pc' := 133) (ls' := [mv_R 100, mv_I 3, mv_I a, mv_I b, mv_I c, mv_I d, mv_I e, mv_I (0 + 1)]) (st' := [mv_I (mv_w (((t + 1 : Nat) : Int) + 1)), mv_R 100]) (M1 := (mv_st (mv_st (mv_st (mv_st (mv_st (mv_st (mv_st (mv_st (mv_st M 29 (mv_up (M 29) t a)) 28 (mv_up (M 28) 1 ((t + 1 : Nat) : Int))) 29 (mv_up (mv_up (M 29) t a) (t + 1) b)) 28 (mv_up (mv_up (M 28) 1 ((t + 1 : Nat) : Int)) 1 ((t + 2 : Nat) : Int))) 29 (mv_up (mv_up (mv_up (M 29) t a) (t + 1) b) (t + 2) c)) 28 (mv_up (mv_up (mv_up (M 28) 1 ((t + 1 : Nat) : Int)) 1 ((t + 2 : Nat) : Int)) 1 ((t + 3 : Nat) : Int))) 108 (mv_up (M 108) t a)) 100 (mv_up (M 100) 9 ((t + 1 : Nat) : Int))) 108 (mv_up (mv_up (M 108) t a) (t + 1) b))) rfl ?_
              rw [show mv_w (((t + 1 : Nat) : Int) + 1) = ((t + 1 : Nat) : Int) + 1 from mv_w_id (by omega) (by omega)]
              rw [show ((t + 1 : Nat) : Int) + 1 = ((t + 2 : Nat) : Int) from by omega]
              refine mv_goW 6 (pc' := if (mv_w ((0 + 1) + 1)) < 3 then 74 else 142) (ls' := [mv_R 100, mv_I 3, mv_I a, mv_I b, mv_I c, mv_I d, mv_I e, mv_I (mv_w ((0 + 1) + 1))]) (st' := []) (M1 := (mv_st (mv_st (mv_st (mv_st (mv_st (mv_st (mv_st (mv_st (mv_st (mv_st M 29 (mv_up (M 29) t a)) 28 (mv_up (M 28) 1 ((t + 1 : Nat) : Int))) 29 (mv_up (mv_up (M 29) t a) (t + 1) b)) 28 (mv_up (mv_up (M 28) 1 ((t + 1 : Nat) : Int)) 1 ((t + 2 : Nat) : Int))) 29 (mv_up (mv_up (mv_up (M 29) t a) (t + 1) b) (t + 2) c)) 28 (mv_up (mv_up (mv_up (M 28) 1 ((t + 1 : Nat) : Int)) 1 ((t + 2 : Nat) : Int)) 1 ((t + 3 : Nat) : Int))) 108 (mv_up (M 108) t a)) 100 (mv_up (M 100) 9 ((t + 1 : Nat) : Int))) 108 (mv_up (mv_up (M 108) t a) (t + 1) b)) 100 (mv_up (mv_up (M 100) 9 ((t + 1 : Nat) : Int)) 9 ((t + 2 : Nat) : Int)))) rfl ?_
              rw [show mv_w ((0 + 1) + 1) = (0 + 1) + 1 from mv_w_id (by omega) (by omega)]
              refine mv_ttW (by decide) ?_
              refine mv_goW 6 (pc' := if ((0 + 1) + 1) = 0 then 87 else 91) (ls' := [mv_R 100, mv_I 3, mv_I a, mv_I b, mv_I c, mv_I d, mv_I e, mv_I ((0 + 1) + 1)]) (st' := [mv_I ((t + 2 : Nat) : Int), mv_R 108]) (M1 := (mv_st (mv_st (mv_st (mv_st (mv_st (mv_st (mv_st (mv_st (mv_st (mv_st M 29 (mv_up (M 29) t a)) 28 (mv_up (M 28) 1 ((t + 1 : Nat) : Int))) 29 (mv_up (mv_up (M 29) t a) (t + 1) b)) 28 (mv_up (mv_up (M 28) 1 ((t + 1 : Nat) : Int)) 1 ((t + 2 : Nat) : Int))) 29 (mv_up (mv_up (mv_up (M 29) t a) (t + 1) b) (t + 2) c)) 28 (mv_up (mv_up (mv_up (M 28) 1 ((t + 1 : Nat) : Int)) 1 ((t + 2 : Nat) : Int)) 1 ((t + 3 : Nat) : Int))) 108 (mv_up (M 108) t a)) 100 (mv_up (M 100) 9 ((t + 1 : Nat) : Int))) 108 (mv_up (mv_up (M 108) t a) (t + 1) b)) 100 (mv_up (mv_up (M 100) 9 ((t + 1 : Nat) : Int)) 9 ((t + 2 : Nat) : Int)))) rfl ?_
              refine mv_ffW (by decide) ?_
              refine mv_goW 3 (pc' := if ((0 + 1) + 1) = 1 then 97 else 101) (ls' := [mv_R 100, mv_I 3, mv_I a, mv_I b, mv_I c, mv_I d, mv_I e, mv_I ((0 + 1) + 1)]) (st' := [mv_I ((t + 2 : Nat) : Int), mv_R 108]) (M1 := (mv_st (mv_st (mv_st (mv_st (mv_st (mv_st (mv_st (mv_st (mv_st (mv_st M 29 (mv_up (M 29) t a)) 28 (mv_up (M 28) 1 ((t + 1 : Nat) : Int))) 29 (mv_up (mv_up (M 29) t a) (t + 1) b)) 28 (mv_up (mv_up (M 28) 1 ((t + 1 : Nat) : Int)) 1 ((t + 2 : Nat) : Int))) 29 (mv_up (mv_up (mv_up (M 29) t a) (t + 1) b) (t + 2) c)) 28 (mv_up (mv_up (mv_up (M 28) 1 ((t + 1 : Nat) : Int)) 1 ((t + 2 : Nat) : Int)) 1 ((t + 3 : Nat) : Int))) 108 (mv_up (M 108) t a)) 100 (mv_up (M 100) 9 ((t + 1 : Nat) : Int))) 108 (mv_up (mv_up (M 108) t a) (t + 1) b)) 100 (mv_up (mv_up (M 100) 9 ((t + 1 : Nat) : Int)) 9 ((t + 2 : Nat) : Int)))) rfl ?_
              refine mv_ffW (by decide) ?_
              refine mv_goW 3 (pc' := if ((0 + 1) + 1) = 2 then 107 else 112) (ls' := [mv_R 100, mv_I 3, mv_I a, mv_I b, mv_I c, mv_I d, mv_I e, mv_I ((0 + 1) + 1)]) (st' := [mv_I ((t + 2 : Nat) : Int), mv_R 108]) (M1 := (mv_st (mv_st (mv_st (mv_st (mv_st (mv_st (mv_st (mv_st (mv_st (mv_st M 29 (mv_up (M 29) t a)) 28 (mv_up (M 28) 1 ((t + 1 : Nat) : Int))) 29 (mv_up (mv_up (M 29) t a) (t + 1) b)) 28 (mv_up (mv_up (M 28) 1 ((t + 1 : Nat) : Int)) 1 ((t + 2 : Nat) : Int))) 29 (mv_up (mv_up (mv_up (M 29) t a) (t + 1) b) (t + 2) c)) 28 (mv_up (mv_up (mv_up (M 28) 1 ((t + 1 : Nat) : Int)) 1 ((t + 2 : Nat) : Int)) 1 ((t + 3 : Nat) : Int))) 108 (mv_up (M 108) t a)) 100 (mv_up (M 100) 9 ((t + 1 : Nat) : Int))) 108 (mv_up (mv_up (M 108) t a) (t + 1) b)) 100 (mv_up (mv_up (M 100) 9 ((t + 1 : Nat) : Int)) 9 ((t + 2 : Nat) : Int)))) rfl ?_
              refine mv_ttW (by decide) ?_
              refine mv_goW 3 (pc' := if 0 ≤ ((t + 2 : Nat) : Int) ∧ ((t + 2 : Nat) : Int) < 160 then 126 else mv_bad) (ls' := [mv_R 100, mv_I 3, mv_I a, mv_I b, mv_I c, mv_I d, mv_I e, mv_I ((0 + 1) + 1)]) (st' := []) (M1 := (mv_st (mv_st (mv_st (mv_st (mv_st (mv_st (mv_st (mv_st (mv_st (mv_st (mv_st M 29 (mv_up (M 29) t a)) 28 (mv_up (M 28) 1 ((t + 1 : Nat) : Int))) 29 (mv_up (mv_up (M 29) t a) (t + 1) b)) 28 (mv_up (mv_up (M 28) 1 ((t + 1 : Nat) : Int)) 1 ((t + 2 : Nat) : Int))) 29 (mv_up (mv_up (mv_up (M 29) t a) (t + 1) b) (t + 2) c)) 28 (mv_up (mv_up (mv_up (M 28) 1 ((t + 1 : Nat) : Int)) 1 ((t + 2 : Nat) : Int)) 1 ((t + 3 : Nat) : Int))) 108 (mv_up (M 108) t a)) 100 (mv_up (M 100) 9 ((t + 1 : Nat) : Int))) 108 (mv_up (mv_up (M 108) t a) (t + 1) b)) 100 (mv_up (mv_up (M 100) 9 ((t + 1 : Nat) : Int)) 9 ((t + 2 : Nat) : Int))) 108 (mv_up (mv_up (mv_up (M 108) t a) (t + 1) b) (t + 2) c))) rfl ?_
              refine mv_ttW (by omega) ?_
              refine mv_goW 5 (pc' := 133) (ls' := [mv_R 100, mv_I 3, mv_I a, mv_I b, mv_I c, mv_I d, mv_I e, mv_I ((0 + 1) + 1)]) (st' := [mv_I (mv_w (((t + 2 : Nat) : Int) + 1)), mv_R 100]) (M1 := (mv_st (mv_st (mv_st (mv_st (mv_st (mv_st (mv_st (mv_st (mv_st (mv_st (mv_st M 29 (mv_up (M 29) t a)) 28 (mv_up (M 28) 1 ((t + 1 : Nat) : Int))) 29 (mv_up (mv_up (M 29) t a) (t + 1) b)) 28 (mv_up (mv_up (M 28) 1 ((t + 1 : Nat) : Int)) 1 ((t + 2 : Nat) : Int))) 29 (mv_up (mv_up (mv_up (M 29) t a) (t + 1) b) (t + 2) c)) 28 (mv_up (mv_up (mv_up (M 28) 1 ((t + 1 : Nat) : Int)) 1 ((t + 2 : Nat) : Int)) 1 ((t + 3 : Nat) : Int))) 108 (mv_up (M 108) t a)) 100 (mv_up (M 100) 9 ((t + 1 : Nat) : Int))) 108 (mv_up (mv_up (M 108) t a) (t + 1) b)) 100 (mv_up (mv_up (M 100) 9 ((t + 1 : Nat) : Int)) 9 ((t + 2 : Nat) : Int))) 108 (mv_up (mv_up (mv_up (M 108) t a) (t + 1) b) (t + 2) c))) rfl ?_
              rw [show mv_w (((t + 2 : Nat) : Int) + 1) = ((t + 2 : Nat) : Int) + 1 from mv_w_id (by omega) (by omega)]
              rw [show ((t + 2 : Nat) : Int) + 1 = ((t + 3 : Nat) : Int) from by omega]
              refine mv_goW 6 (pc' := if (mv_w (((0 + 1) + 1) + 1)) < 3 then 74 else 142) (ls' := [mv_R 100, mv_I 3, mv_I a, mv_I b, mv_I c, mv_I d, mv_I e, mv_I (mv_w (((0 + 1) + 1) + 1))]) (st' := []) (M1 := (mv_st (mv_st (mv_st (mv_st (mv_st (mv_st (mv_st (mv_st (mv_st (mv_st (mv_st (mv_st M 29 (mv_up (M 29) t a)) 28 (mv_up (M 28) 1 ((t + 1 : Nat) : Int))) 29 (mv_up (mv_up (M 29) t a) (t + 1) b)) 28 (mv_up (mv_up (M 28) 1 ((t + 1 : Nat) : Int)) 1 ((t + 2 : Nat) : Int))) 29 (mv_up (mv_up (mv_up (M 29) t a) (t + 1) b) (t + 2) c)) 28 (mv_up (mv_up (mv_up (M 28) 1 ((t + 1 : Nat) : Int)) 1 ((t + 2 : Nat) : Int)) 1 ((t + 3 : Nat) : Int))) 108 (mv_up (M 108) t a)) 100 (mv_up (M 100) 9 ((t + 1 : Nat) : Int))) 108 (mv_up (mv_up (M 108) t a) (t + 1) b)) 100 (mv_up (mv_up (M 100) 9 ((t + 1 : Nat) : Int)) 9 ((t + 2 : Nat) : Int))) 108 (mv_up (mv_up (mv_up (M 108) t a) (t + 1) b) (t + 2) c)) 100 (mv_up (mv_up (mv_up (M 100) 9 ((t + 1 : Nat) : Int)) 9 ((t + 2 : Nat) : Int)) 9 ((t + 3 : Nat) : Int)))) rfl ?_
              rw [show mv_w (((0 + 1) + 1) + 1) = ((0 + 1) + 1) + 1 from mv_w_id (by omega) (by omega)]
              refine mv_ffW (by decide) ?_
              refine mv_goW 2 (pc' := 146) (ls' := [mv_R 100, mv_I 3, mv_I a, mv_I b, mv_I c, mv_I d, mv_I e, mv_I (((0 + 1) + 1) + 1)]) (st' := [mv_I ((t + 3 : Nat) : Int)]) (M1 := (mv_st (mv_st (mv_st (mv_st (mv_st (mv_st (mv_st (mv_st (mv_st (mv_st (mv_st (mv_st M 29 (mv_up (M 29) t a)) 28 (mv_up (M 28) 1 ((t + 1 : Nat) : Int))) 29 (mv_up (mv_up (M 29) t a) (t + 1) b)) 28 (mv_up (mv_up (M 28) 1 ((t + 1 : Nat) : Int)) 1 ((t + 2 : Nat) : Int))) 29 (mv_up (mv_up (mv_up (M 29) t a) (t + 1) b) (t + 2) c)) 28 (mv_up (mv_up (mv_up (M 28) 1 ((t + 1 : Nat) : Int)) 1 ((t + 2 : Nat) : Int)) 1 ((t + 3 : Nat) : Int))) 108 (mv_up (M 108) t a)) 100 (mv_up (M 100) 9 ((t + 1 : Nat) : Int))) 108 (mv_up (mv_up (M 108) t a) (t + 1) b)) 100 (mv_up (mv_up (M 100) 9 ((t + 1 : Nat) : Int)) 9 ((t + 2 : Nat) : Int))) 108 (mv_up (mv_up (mv_up (M 108) t a) (t + 1) b) (t + 2) c)) 100 (mv_up (mv_up (mv_up (M 100) 9 ((t + 1 : Nat) : Int)) 9 ((t + 2 : Nat) : Int)) 9 ((t + 3 : Nat) : Int)))) rfl ?_
              exact mv_retW (fun n => rfl) ⟨congrArg mv_I (by first | with_reducible rfl | omega), sp_fd_end (t2 := t + 3) h (fun i q1 q2 q3 q4 => by simp only [mv_st_n _ _ q1, mv_st_n _ _ q2, mv_st_n _ _ q3, mv_st_n _ _ q4]) rfl rfl (by omega) ⟨rfl, rfl, rfl, rfl, rfl, rfl⟩ (show ∀ j, j < t + 3 → mv_up (mv_up (mv_up (M 29) t a) (t + 1) b) (t + 2) c j = mv_up (mv_up (mv_up (M 108) t a) (t + 1) b) (t + 2) c j ∧ 0 ≤ mv_up (mv_up (mv_up (M 29) t a) (t + 1) b) (t + 2) c j ∧ mv_up (mv_up (mv_up (M 29) t a) (t + 1) b) (t + 2) c j ≤ 255 from sp_ub (sp_ub (sp_ub (htp.2.2.2) (by omega)) (by omega)) (by omega))⟩
          · refine mv_callPW (st2 := [mv_I 0]) rfl (Or.inr rfl) rfl rfl rfl (sp_cby_f ha93) (by first | decide | omega) ?_
            refine mv_goW 1 (pc' := if 0 = 0 then 48 else 51) (ls' := [mv_R 0, mv_I 3, mv_I a, mv_I b, mv_I c, mv_I d, mv_I e, mv_U]) (st' := []) (M1 := M) rfl ?_
            refine mv_ttW (by decide) ?_
            refine mv_goW 1 (pc' := 50) (ls' := [mv_R 0, mv_I 3, mv_I a, mv_I b, mv_I c, mv_I d, mv_I e, mv_U]) (st' := [mv_I (-2)]) (M1 := M) rfl ?_
            refine mv_retW (fun n => rfl) ⟨_, rfl, ?_⟩
            refine mv_goW 3 (pc' := 3) (ls' := [mv_R 100, mv_I 3, mv_I a, mv_I b, mv_I c, mv_I d, mv_I e, mv_U]) (st' := [mv_I 5, mv_I 1, mv_I 3]) (M1 := M) rfl ?_
            have ha113 : (1 : Int) ≤ (3 : Int) ∧ (3 : Int) ≤ (5 : Int) := by omega
            refine mv_callPW (st2 := [mv_I 1]) rfl (Or.inr rfl) rfl rfl rfl (sp_min_t ha113) (by first | decide | omega) ?_
            refine mv_goW 1 (pc' := if 1 = 0 then 47 else 9) (ls' := [mv_R 100, mv_I 3, mv_I a, mv_I b, mv_I c, mv_I d, mv_I e, mv_U]) (st' := []) (M1 := M) rfl ?_
            refine mv_ffW (by decide) ?_
            refine mv_goW 1 (pc' := 10) (ls' := [mv_R 100, mv_I 3, mv_I a, mv_I b, mv_I c, mv_I d, mv_I e, mv_U]) (st' := [mv_I a]) (M1 := M) rfl ?_
            have ha114 : 0 ≤ a ∧ a ≤ 255 := by omega
            refine mv_callPW (st2 := [mv_I 1]) rfl (Or.inr rfl) rfl rfl rfl (sp_mby_t ha114) (by first | decide | omega) ?_
            refine mv_goW 1 (pc' := if 1 = 0 then 47 else 16) (ls' := [mv_R 100, mv_I 3, mv_I a, mv_I b, mv_I c, mv_I d, mv_I e, mv_U]) (st' := []) (M1 := M) rfl ?_
            refine mv_ffW (by decide) ?_
            refine mv_goW 1 (pc' := 17) (ls' := [mv_R 100, mv_I 3, mv_I a, mv_I b, mv_I c, mv_I d, mv_I e, mv_U]) (st' := [mv_I b]) (M1 := M) rfl ?_
            have ha115 : 0 ≤ b ∧ b ≤ 255 := by omega
            refine mv_callPW (st2 := [mv_I 1]) rfl (Or.inr rfl) rfl rfl rfl (sp_mby_t ha115) (by first | decide | omega) ?_
            refine mv_goW 1 (pc' := if 1 = 0 then 47 else 23) (ls' := [mv_R 100, mv_I 3, mv_I a, mv_I b, mv_I c, mv_I d, mv_I e, mv_U]) (st' := []) (M1 := M) rfl ?_
            refine mv_ffW (by decide) ?_
            refine mv_goW 1 (pc' := 25) (ls' := [mv_R 100, mv_I 3, mv_I a, mv_I b, mv_I c, mv_I d, mv_I e, mv_U]) (st' := [mv_I c]) (M1 := M) rfl ?_
            have ha116 : 0 ≤ c ∧ c ≤ 255 := by omega
            refine mv_callPW (st2 := [mv_I 1]) rfl (Or.inr rfl) rfl rfl rfl (sp_mby_t ha116) (by first | decide | omega) ?_
            refine mv_goW 1 (pc' := if 1 = 0 then 47 else 31) (ls' := [mv_R 100, mv_I 3, mv_I a, mv_I b, mv_I c, mv_I d, mv_I e, mv_U]) (st' := []) (M1 := M) rfl ?_
            refine mv_ffW (by decide) ?_
            refine mv_goW 1 (pc' := 33) (ls' := [mv_R 100, mv_I 3, mv_I a, mv_I b, mv_I c, mv_I d, mv_I e, mv_U]) (st' := [mv_I d]) (M1 := M) rfl ?_
            have ha117 : 0 ≤ d ∧ d ≤ 255 := by omega
            refine mv_callPW (st2 := [mv_I 1]) rfl (Or.inr rfl) rfl rfl rfl (sp_mby_t ha117) (by first | decide | omega) ?_
            refine mv_goW 1 (pc' := if 1 = 0 then 47 else 39) (ls' := [mv_R 100, mv_I 3, mv_I a, mv_I b, mv_I c, mv_I d, mv_I e, mv_U]) (st' := []) (M1 := M) rfl ?_
            refine mv_ffW (by decide) ?_
            refine mv_goW 1 (pc' := 41) (ls' := [mv_R 100, mv_I 3, mv_I a, mv_I b, mv_I c, mv_I d, mv_I e, mv_U]) (st' := [mv_I e]) (M1 := M) rfl ?_
            have ha118 : ¬ (0 ≤ e ∧ e ≤ 255) := by omega
            refine mv_callPW (st2 := [mv_I 0]) rfl (Or.inr rfl) rfl rfl rfl (sp_mby_f ha118) (by first | decide | omega) ?_
            refine mv_goW 1 (pc' := if 0 = 0 then 47 else 50) (ls' := [mv_R 100, mv_I 3, mv_I a, mv_I b, mv_I c, mv_I d, mv_I e, mv_U]) (st' := []) (M1 := M) rfl ?_
            refine mv_ttW (by decide) ?_
            refine mv_goW 1 (pc' := 49) (ls' := [mv_R 100, mv_I 3, mv_I a, mv_I b, mv_I c, mv_I d, mv_I e, mv_U]) (st' := [mv_I (-2)]) (M1 := M) rfl ?_
            exact mv_retW (fun n => rfl) ⟨congrArg mv_I (by first | with_reducible rfl | omega), hI⟩
        · refine mv_callPW (st2 := [mv_I 0]) rfl (Or.inr rfl) rfl rfl rfl (sp_cby_f ha92) (by first | decide | omega) ?_
          refine mv_goW 1 (pc' := if 0 = 0 then 48 else 40) (ls' := [mv_R 0, mv_I 3, mv_I a, mv_I b, mv_I c, mv_I d, mv_I e, mv_U]) (st' := []) (M1 := M) rfl ?_
          refine mv_ttW (by decide) ?_
          refine mv_goW 1 (pc' := 50) (ls' := [mv_R 0, mv_I 3, mv_I a, mv_I b, mv_I c, mv_I d, mv_I e, mv_U]) (st' := [mv_I (-2)]) (M1 := M) rfl ?_
          refine mv_retW (fun n => rfl) ⟨_, rfl, ?_⟩
          refine mv_goW 3 (pc' := 3) (ls' := [mv_R 100, mv_I 3, mv_I a, mv_I b, mv_I c, mv_I d, mv_I e, mv_U]) (st' := [mv_I 5, mv_I 1, mv_I 3]) (M1 := M) rfl ?_
          have ha119 : (1 : Int) ≤ (3 : Int) ∧ (3 : Int) ≤ (5 : Int) := by omega
          refine mv_callPW (st2 := [mv_I 1]) rfl (Or.inr rfl) rfl rfl rfl (sp_min_t ha119) (by first | decide | omega) ?_
          refine mv_goW 1 (pc' := if 1 = 0 then 47 else 9) (ls' := [mv_R 100, mv_I 3, mv_I a, mv_I b, mv_I c, mv_I d, mv_I e, mv_U]) (st' := []) (M1 := M) rfl ?_
          refine mv_ffW (by decide) ?_
          refine mv_goW 1 (pc' := 10) (ls' := [mv_R 100, mv_I 3, mv_I a, mv_I b, mv_I c, mv_I d, mv_I e, mv_U]) (st' := [mv_I a]) (M1 := M) rfl ?_
          have ha120 : 0 ≤ a ∧ a ≤ 255 := by omega
          refine mv_callPW (st2 := [mv_I 1]) rfl (Or.inr rfl) rfl rfl rfl (sp_mby_t ha120) (by first | decide | omega) ?_
          refine mv_goW 1 (pc' := if 1 = 0 then 47 else 16) (ls' := [mv_R 100, mv_I 3, mv_I a, mv_I b, mv_I c, mv_I d, mv_I e, mv_U]) (st' := []) (M1 := M) rfl ?_
          refine mv_ffW (by decide) ?_
          refine mv_goW 1 (pc' := 17) (ls' := [mv_R 100, mv_I 3, mv_I a, mv_I b, mv_I c, mv_I d, mv_I e, mv_U]) (st' := [mv_I b]) (M1 := M) rfl ?_
          have ha121 : 0 ≤ b ∧ b ≤ 255 := by omega
          refine mv_callPW (st2 := [mv_I 1]) rfl (Or.inr rfl) rfl rfl rfl (sp_mby_t ha121) (by first | decide | omega) ?_
          refine mv_goW 1 (pc' := if 1 = 0 then 47 else 23) (ls' := [mv_R 100, mv_I 3, mv_I a, mv_I b, mv_I c, mv_I d, mv_I e, mv_U]) (st' := []) (M1 := M) rfl ?_
          refine mv_ffW (by decide) ?_
          refine mv_goW 1 (pc' := 25) (ls' := [mv_R 100, mv_I 3, mv_I a, mv_I b, mv_I c, mv_I d, mv_I e, mv_U]) (st' := [mv_I c]) (M1 := M) rfl ?_
          have ha122 : 0 ≤ c ∧ c ≤ 255 := by omega
          refine mv_callPW (st2 := [mv_I 1]) rfl (Or.inr rfl) rfl rfl rfl (sp_mby_t ha122) (by first | decide | omega) ?_
          refine mv_goW 1 (pc' := if 1 = 0 then 47 else 31) (ls' := [mv_R 100, mv_I 3, mv_I a, mv_I b, mv_I c, mv_I d, mv_I e, mv_U]) (st' := []) (M1 := M) rfl ?_
          refine mv_ffW (by decide) ?_
          refine mv_goW 1 (pc' := 33) (ls' := [mv_R 100, mv_I 3, mv_I a, mv_I b, mv_I c, mv_I d, mv_I e, mv_U]) (st' := [mv_I d]) (M1 := M) rfl ?_
          have ha123 : ¬ (0 ≤ d ∧ d ≤ 255) := by omega
          refine mv_callPW (st2 := [mv_I 0]) rfl (Or.inr rfl) rfl rfl rfl (sp_mby_f ha123) (by first | decide | omega) ?_
          refine mv_goW 1 (pc' := if 0 = 0 then 47 else 39) (ls' := [mv_R 100, mv_I 3, mv_I a, mv_I b, mv_I c, mv_I d, mv_I e, mv_U]) (st' := []) (M1 := M) rfl ?_
          refine mv_ttW (by decide) ?_
          refine mv_goW 1 (pc' := 49) (ls' := [mv_R 100, mv_I 3, mv_I a, mv_I b, mv_I c, mv_I d, mv_I e, mv_U]) (st' := [mv_I (-2)]) (M1 := M) rfl ?_
          exact mv_retW (fun n => rfl) ⟨congrArg mv_I (by first | with_reducible rfl | omega), hI⟩
      · refine mv_callPW (st2 := [mv_I 0]) rfl (Or.inr rfl) rfl rfl rfl (sp_cby_f ha91) (by first | decide | omega) ?_
        refine mv_goW 1 (pc' := if 0 = 0 then 48 else 32) (ls' := [mv_R 0, mv_I 3, mv_I a, mv_I b, mv_I c, mv_I d, mv_I e, mv_U]) (st' := []) (M1 := M) rfl ?_
        refine mv_ttW (by decide) ?_
        refine mv_goW 1 (pc' := 50) (ls' := [mv_R 0, mv_I 3, mv_I a, mv_I b, mv_I c, mv_I d, mv_I e, mv_U]) (st' := [mv_I (-2)]) (M1 := M) rfl ?_
        refine mv_retW (fun n => rfl) ⟨_, rfl, ?_⟩
        refine mv_goW 3 (pc' := 3) (ls' := [mv_R 100, mv_I 3, mv_I a, mv_I b, mv_I c, mv_I d, mv_I e, mv_U]) (st' := [mv_I 5, mv_I 1, mv_I 3]) (M1 := M) rfl ?_
        have ha124 : (1 : Int) ≤ (3 : Int) ∧ (3 : Int) ≤ (5 : Int) := by omega
        refine mv_callPW (st2 := [mv_I 1]) rfl (Or.inr rfl) rfl rfl rfl (sp_min_t ha124) (by first | decide | omega) ?_
        refine mv_goW 1 (pc' := if 1 = 0 then 47 else 9) (ls' := [mv_R 100, mv_I 3, mv_I a, mv_I b, mv_I c, mv_I d, mv_I e, mv_U]) (st' := []) (M1 := M) rfl ?_
        refine mv_ffW (by decide) ?_
        refine mv_goW 1 (pc' := 10) (ls' := [mv_R 100, mv_I 3, mv_I a, mv_I b, mv_I c, mv_I d, mv_I e, mv_U]) (st' := [mv_I a]) (M1 := M) rfl ?_
        have ha125 : 0 ≤ a ∧ a ≤ 255 := by omega
        refine mv_callPW (st2 := [mv_I 1]) rfl (Or.inr rfl) rfl rfl rfl (sp_mby_t ha125) (by first | decide | omega) ?_
        refine mv_goW 1 (pc' := if 1 = 0 then 47 else 16) (ls' := [mv_R 100, mv_I 3, mv_I a, mv_I b, mv_I c, mv_I d, mv_I e, mv_U]) (st' := []) (M1 := M) rfl ?_
        refine mv_ffW (by decide) ?_
        refine mv_goW 1 (pc' := 17) (ls' := [mv_R 100, mv_I 3, mv_I a, mv_I b, mv_I c, mv_I d, mv_I e, mv_U]) (st' := [mv_I b]) (M1 := M) rfl ?_
        have ha126 : 0 ≤ b ∧ b ≤ 255 := by omega
        refine mv_callPW (st2 := [mv_I 1]) rfl (Or.inr rfl) rfl rfl rfl (sp_mby_t ha126) (by first | decide | omega) ?_
        refine mv_goW 1 (pc' := if 1 = 0 then 47 else 23) (ls' := [mv_R 100, mv_I 3, mv_I a, mv_I b, mv_I c, mv_I d, mv_I e, mv_U]) (st' := []) (M1 := M) rfl ?_
        refine mv_ffW (by decide) ?_
        refine mv_goW 1 (pc' := 25) (ls' := [mv_R 100, mv_I 3, mv_I a, mv_I b, mv_I c, mv_I d, mv_I e, mv_U]) (st' := [mv_I c]) (M1 := M) rfl ?_
        have ha127 : ¬ (0 ≤ c ∧ c ≤ 255) := by omega
        refine mv_callPW (st2 := [mv_I 0]) rfl (Or.inr rfl) rfl rfl rfl (sp_mby_f ha127) (by first | decide | omega) ?_
        refine mv_goW 1 (pc' := if 0 = 0 then 47 else 31) (ls' := [mv_R 100, mv_I 3, mv_I a, mv_I b, mv_I c, mv_I d, mv_I e, mv_U]) (st' := []) (M1 := M) rfl ?_
        refine mv_ttW (by decide) ?_
        refine mv_goW 1 (pc' := 49) (ls' := [mv_R 100, mv_I 3, mv_I a, mv_I b, mv_I c, mv_I d, mv_I e, mv_U]) (st' := [mv_I (-2)]) (M1 := M) rfl ?_
        exact mv_retW (fun n => rfl) ⟨congrArg mv_I (by first | with_reducible rfl | omega), hI⟩
    · refine mv_callPW (st2 := [mv_I 0]) rfl (Or.inr rfl) rfl rfl rfl (sp_cby_f ha90) (by first | decide | omega) ?_
      refine mv_goW 1 (pc' := if 0 = 0 then 48 else 24) (ls' := [mv_R 0, mv_I 3, mv_I a, mv_I b, mv_I c, mv_I d, mv_I e, mv_U]) (st' := []) (M1 := M) rfl ?_
      refine mv_ttW (by decide) ?_
      refine mv_goW 1 (pc' := 50) (ls' := [mv_R 0, mv_I 3, mv_I a, mv_I b, mv_I c, mv_I d, mv_I e, mv_U]) (st' := [mv_I (-2)]) (M1 := M) rfl ?_
      refine mv_retW (fun n => rfl) ⟨_, rfl, ?_⟩
      refine mv_goW 3 (pc' := 3) (ls' := [mv_R 100, mv_I 3, mv_I a, mv_I b, mv_I c, mv_I d, mv_I e, mv_U]) (st' := [mv_I 5, mv_I 1, mv_I 3]) (M1 := M) rfl ?_
      have ha128 : (1 : Int) ≤ (3 : Int) ∧ (3 : Int) ≤ (5 : Int) := by omega
      refine mv_callPW (st2 := [mv_I 1]) rfl (Or.inr rfl) rfl rfl rfl (sp_min_t ha128) (by first | decide | omega) ?_
      refine mv_goW 1 (pc' := if 1 = 0 then 47 else 9) (ls' := [mv_R 100, mv_I 3, mv_I a, mv_I b, mv_I c, mv_I d, mv_I e, mv_U]) (st' := []) (M1 := M) rfl ?_
      refine mv_ffW (by decide) ?_
      refine mv_goW 1 (pc' := 10) (ls' := [mv_R 100, mv_I 3, mv_I a, mv_I b, mv_I c, mv_I d, mv_I e, mv_U]) (st' := [mv_I a]) (M1 := M) rfl ?_
      have ha129 : 0 ≤ a ∧ a ≤ 255 := by omega
      refine mv_callPW (st2 := [mv_I 1]) rfl (Or.inr rfl) rfl rfl rfl (sp_mby_t ha129) (by first | decide | omega) ?_
      refine mv_goW 1 (pc' := if 1 = 0 then 47 else 16) (ls' := [mv_R 100, mv_I 3, mv_I a, mv_I b, mv_I c, mv_I d, mv_I e, mv_U]) (st' := []) (M1 := M) rfl ?_
      refine mv_ffW (by decide) ?_
      refine mv_goW 1 (pc' := 17) (ls' := [mv_R 100, mv_I 3, mv_I a, mv_I b, mv_I c, mv_I d, mv_I e, mv_U]) (st' := [mv_I b]) (M1 := M) rfl ?_
      have ha130 : ¬ (0 ≤ b ∧ b ≤ 255) := by omega
      refine mv_callPW (st2 := [mv_I 0]) rfl (Or.inr rfl) rfl rfl rfl (sp_mby_f ha130) (by first | decide | omega) ?_
      refine mv_goW 1 (pc' := if 0 = 0 then 47 else 23) (ls' := [mv_R 100, mv_I 3, mv_I a, mv_I b, mv_I c, mv_I d, mv_I e, mv_U]) (st' := []) (M1 := M) rfl ?_
      refine mv_ttW (by decide) ?_
      refine mv_goW 1 (pc' := 49) (ls' := [mv_R 100, mv_I 3, mv_I a, mv_I b, mv_I c, mv_I d, mv_I e, mv_U]) (st' := [mv_I (-2)]) (M1 := M) rfl ?_
      exact mv_retW (fun n => rfl) ⟨congrArg mv_I (by first | with_reducible rfl | omega), hI⟩
  · refine mv_callPW (st2 := [mv_I 0]) rfl (Or.inr rfl) rfl rfl rfl (sp_cby_f ha89) (by first | decide | omega) ?_
    refine mv_goW 1 (pc' := if 0 = 0 then 48 else 17) (ls' := [mv_R 0, mv_I 3, mv_I a, mv_I b, mv_I c, mv_I d, mv_I e, mv_U]) (st' := []) (M1 := M) rfl ?_
    refine mv_ttW (by decide) ?_
    refine mv_goW 1 (pc' := 50) (ls' := [mv_R 0, mv_I 3, mv_I a, mv_I b, mv_I c, mv_I d, mv_I e, mv_U]) (st' := [mv_I (-2)]) (M1 := M) rfl ?_
    refine mv_retW (fun n => rfl) ⟨_, rfl, ?_⟩
    refine mv_goW 3 (pc' := 3) (ls' := [mv_R 100, mv_I 3, mv_I a, mv_I b, mv_I c, mv_I d, mv_I e, mv_U]) (st' := [mv_I 5, mv_I 1, mv_I 3]) (M1 := M) rfl ?_
    have ha131 : (1 : Int) ≤ (3 : Int) ∧ (3 : Int) ≤ (5 : Int) := by omega
    refine mv_callPW (st2 := [mv_I 1]) rfl (Or.inr rfl) rfl rfl rfl (sp_min_t ha131) (by first | decide | omega) ?_
    refine mv_goW 1 (pc' := if 1 = 0 then 47 else 9) (ls' := [mv_R 100, mv_I 3, mv_I a, mv_I b, mv_I c, mv_I d, mv_I e, mv_U]) (st' := []) (M1 := M) rfl ?_
    refine mv_ffW (by decide) ?_
    refine mv_goW 1 (pc' := 10) (ls' := [mv_R 100, mv_I 3, mv_I a, mv_I b, mv_I c, mv_I d, mv_I e, mv_U]) (st' := [mv_I a]) (M1 := M) rfl ?_
    have ha132 : ¬ (0 ≤ a ∧ a ≤ 255) := by omega
    refine mv_callPW (st2 := [mv_I 0]) rfl (Or.inr rfl) rfl rfl rfl (sp_mby_f ha132) (by first | decide | omega) ?_
    refine mv_goW 1 (pc' := if 0 = 0 then 47 else 16) (ls' := [mv_R 100, mv_I 3, mv_I a, mv_I b, mv_I c, mv_I d, mv_I e, mv_U]) (st' := []) (M1 := M) rfl ?_
    refine mv_ttW (by decide) ?_
    refine mv_goW 1 (pc' := 49) (ls' := [mv_R 100, mv_I 3, mv_I a, mv_I b, mv_I c, mv_I d, mv_I e, mv_U]) (st' := [mv_I (-2)]) (M1 := M) rfl ?_
    exact mv_retW (fun n => rfl) ⟨congrArg mv_I (by first | with_reducible rfl | omega), hI⟩
theorem sp_k2_4 (a b c d e : Int) : sp_call 63 125 [mv_I 4, mv_I a, mv_I b, mv_I c, mv_I d, mv_I e] [mv_I 4, mv_I a, mv_I b, mv_I c, mv_I d, mv_I e] := by
  refine sp_mkW (lc := [mv_R 0, mv_I 4, mv_I a, mv_I b, mv_I c, mv_I d, mv_I e, mv_U]) (lm := [mv_R 100, mv_I 4, mv_I a, mv_I b, mv_I c, mv_I d, mv_I e, mv_U]) rfl rfl (fun M hI => ?_)
  have hI2 := hI
  obtain ⟨V, P, n, B, K, t, h⟩ := hI2
  have h' := h
  obtain ⟨_, _, _, _, htp, _⟩ := h'
  have ht28 := htp.1
  have ht160 := htp.2.2.1
  refine mv_goW 3 (pc' := if 4 < 1 then 48 else 5) (ls' := [mv_R 0, mv_I 4, mv_I a, mv_I b, mv_I c, mv_I d, mv_I e, mv_U]) (st' := []) (M1 := M) rfl ?_
  refine mv_ffW (by decide) ?_
  refine mv_goW 3 (pc' := if 5 < 4 then 48 else 10) (ls' := [mv_R 0, mv_I 4, mv_I a, mv_I b, mv_I c, mv_I d, mv_I e, mv_U]) (st' := []) (M1 := M) rfl ?_
  refine mv_ffW (by decide) ?_
  refine mv_goW 1 (pc' := 11) (ls' := [mv_R 0, mv_I 4, mv_I a, mv_I b, mv_I c, mv_I d, mv_I e, mv_U]) (st' := [mv_I a]) (M1 := M) rfl ?_
  by_cases ha133 : 0 ≤ a ∧ a ≤ 255
  · refine mv_callPW (st2 := [mv_I 1]) rfl (Or.inr rfl) rfl rfl rfl (sp_cby_t ha133) (by first | decide | omega) ?_
    refine mv_goW 1 (pc' := if 1 = 0 then 48 else 17) (ls' := [mv_R 0, mv_I 4, mv_I a, mv_I b, mv_I c, mv_I d, mv_I e, mv_U]) (st' := []) (M1 := M) rfl ?_
    refine mv_ffW (by decide) ?_
    refine mv_goW 1 (pc' := 18) (ls' := [mv_R 0, mv_I 4, mv_I a, mv_I b, mv_I c, mv_I d, mv_I e, mv_U]) (st' := [mv_I b]) (M1 := M) rfl ?_
    by_cases ha134 : 0 ≤ b ∧ b ≤ 255
    · refine mv_callPW (st2 := [mv_I 1]) rfl (Or.inr rfl) rfl rfl rfl (sp_cby_t ha134) (by first | decide | omega) ?_
      refine mv_goW 1 (pc' := if 1 = 0 then 48 else 24) (ls' := [mv_R 0, mv_I 4, mv_I a, mv_I b, mv_I c, mv_I d, mv_I e, mv_U]) (st' := []) (M1 := M) rfl ?_
      refine mv_ffW (by decide) ?_
      refine mv_goW 1 (pc' := 26) (ls' := [mv_R 0, mv_I 4, mv_I a, mv_I b, mv_I c, mv_I d, mv_I e, mv_U]) (st' := [mv_I c]) (M1 := M) rfl ?_
      by_cases ha135 : 0 ≤ c ∧ c ≤ 255
      · refine mv_callPW (st2 := [mv_I 1]) rfl (Or.inr rfl) rfl rfl rfl (sp_cby_t ha135) (by first | decide | omega) ?_
        refine mv_goW 1 (pc' := if 1 = 0 then 48 else 32) (ls' := [mv_R 0, mv_I 4, mv_I a, mv_I b, mv_I c, mv_I d, mv_I e, mv_U]) (st' := []) (M1 := M) rfl ?_
        refine mv_ffW (by decide) ?_
        refine mv_goW 1 (pc' := 34) (ls' := [mv_R 0, mv_I 4, mv_I a, mv_I b, mv_I c, mv_I d, mv_I e, mv_U]) (st' := [mv_I d]) (M1 := M) rfl ?_
        by_cases ha136 : 0 ≤ d ∧ d ≤ 255
        · refine mv_callPW (st2 := [mv_I 1]) rfl (Or.inr rfl) rfl rfl rfl (sp_cby_t ha136) (by first | decide | omega) ?_
          refine mv_goW 1 (pc' := if 1 = 0 then 48 else 40) (ls' := [mv_R 0, mv_I 4, mv_I a, mv_I b, mv_I c, mv_I d, mv_I e, mv_U]) (st' := []) (M1 := M) rfl ?_
          refine mv_ffW (by decide) ?_
          refine mv_goW 1 (pc' := 42) (ls' := [mv_R 0, mv_I 4, mv_I a, mv_I b, mv_I c, mv_I d, mv_I e, mv_U]) (st' := [mv_I e]) (M1 := M) rfl ?_
          by_cases ha137 : 0 ≤ e ∧ e ≤ 255
          · refine mv_callPW (st2 := [mv_I 1]) rfl (Or.inr rfl) rfl rfl rfl (sp_cby_t ha137) (by first | decide | omega) ?_
            refine mv_goW 1 (pc' := if 1 = 0 then 48 else 51) (ls' := [mv_R 0, mv_I 4, mv_I a, mv_I b, mv_I c, mv_I d, mv_I e, mv_U]) (st' := []) (M1 := M) rfl ?_
            refine mv_ffW (by decide) ?_
            refine mv_goW 3 (pc' := 58) (ls' := [mv_R 0, mv_I 4, mv_I a, mv_I b, mv_I c, mv_I d, mv_I e, mv_U]) (st' := [mv_I (M 28 1)]) (M1 := M) rfl ?_
            rw [show M 28 1 = (t : Int) from by exact htp.1]
            refine mv_goW 4 (pc' := if 160 < (mv_w ((t : Int) + 4)) then 66 else 69) (ls' := [mv_R 0, mv_I 4, mv_I a, mv_I b, mv_I c, mv_I d, mv_I e, mv_U]) (st' := []) (M1 := M) rfl ?_
            rw [show mv_w ((t : Int) + 4) = (t : Int) + 4 from mv_w_id (by omega) (by omega)]
            refine mv_spW (fun ha138 => ?_) (fun ha138 => ?_)
            · refine mv_goW 1 (pc' := 68) (ls' := [mv_R 0, mv_I 4, mv_I a, mv_I b, mv_I c, mv_I d, mv_I e, mv_U]) (st' := [mv_I (-4)]) (M1 := M) rfl ?_
              refine mv_retW (fun n => rfl) ⟨_, rfl, ?_⟩
              refine mv_goW 3 (pc' := 3) (ls' := [mv_R 100, mv_I 4, mv_I a, mv_I b, mv_I c, mv_I d, mv_I e, mv_U]) (st' := [mv_I 5, mv_I 1, mv_I 4]) (M1 := M) rfl ?_
              have ha139 : (1 : Int) ≤ (4 : Int) ∧ (4 : Int) ≤ (5 : Int) := by omega
              refine mv_callPW (st2 := [mv_I 1]) rfl (Or.inr rfl) rfl rfl rfl (sp_min_t ha139) (by first | decide | omega) ?_
              refine mv_goW 1 (pc' := if 1 = 0 then 47 else 9) (ls' := [mv_R 100, mv_I 4, mv_I a, mv_I b, mv_I c, mv_I d, mv_I e, mv_U]) (st' := []) (M1 := M) rfl ?_
              refine mv_ffW (by decide) ?_
              refine mv_goW 1 (pc' := 10) (ls' := [mv_R 100, mv_I 4, mv_I a, mv_I b, mv_I c, mv_I d, mv_I e, mv_U]) (st' := [mv_I a]) (M1 := M) rfl ?_
              have ha140 : 0 ≤ a ∧ a ≤ 255 := by omega
              refine mv_callPW (st2 := [mv_I 1]) rfl (Or.inr rfl) rfl rfl rfl (sp_mby_t ha140) (by first | decide | omega) ?_
              refine mv_goW 1 (pc' := if 1 = 0 then 47 else 16) (ls' := [mv_R 100, mv_I 4, mv_I a, mv_I b, mv_I c, mv_I d, mv_I e, mv_U]) (st' := []) (M1 := M) rfl ?_
              refine mv_ffW (by decide) ?_
              refine mv_goW 1 (pc' := 17) (ls' := [mv_R 100, mv_I 4, mv_I a, mv_I b, mv_I c, mv_I d, mv_I e, mv_U]) (st' := [mv_I b]) (M1 := M) rfl ?_
              have ha141 : 0 ≤ b ∧ b ≤ 255 := by omega
              refine mv_callPW (st2 := [mv_I 1]) rfl (Or.inr rfl) rfl rfl rfl (sp_mby_t ha141) (by first | decide | omega) ?_
              refine mv_goW 1 (pc' := if 1 = 0 then 47 else 23) (ls' := [mv_R 100, mv_I 4, mv_I a, mv_I b, mv_I c, mv_I d, mv_I e, mv_U]) (st' := []) (M1 := M) rfl ?_
              refine mv_ffW (by decide) ?_
              refine mv_goW 1 (pc' := 25) (ls' := [mv_R 100, mv_I 4, mv_I a, mv_I b, mv_I c, mv_I d, mv_I e, mv_U]) (st' := [mv_I c]) (M1 := M) rfl ?_
              have ha142 : 0 ≤ c ∧ c ≤ 255 := by omega
              refine mv_callPW (st2 := [mv_I 1]) rfl (Or.inr rfl) rfl rfl rfl (sp_mby_t ha142) (by first | decide | omega) ?_
              refine mv_goW 1 (pc' := if 1 = 0 then 47 else 31) (ls' := [mv_R 100, mv_I 4, mv_I a, mv_I b, mv_I c, mv_I d, mv_I e, mv_U]) (st' := []) (M1 := M) rfl ?_
              refine mv_ffW (by decide) ?_
              refine mv_goW 1 (pc' := 33) (ls' := [mv_R 100, mv_I 4, mv_I a, mv_I b, mv_I c, mv_I d, mv_I e, mv_U]) (st' := [mv_I d]) (M1 := M) rfl ?_
              have ha143 : 0 ≤ d ∧ d ≤ 255 := by omega
              refine mv_callPW (st2 := [mv_I 1]) rfl (Or.inr rfl) rfl rfl rfl (sp_mby_t ha143) (by first | decide | omega) ?_
              refine mv_goW 1 (pc' := if 1 = 0 then 47 else 39) (ls' := [mv_R 100, mv_I 4, mv_I a, mv_I b, mv_I c, mv_I d, mv_I e, mv_U]) (st' := []) (M1 := M) rfl ?_
              refine mv_ffW (by decide) ?_
              refine mv_goW 1 (pc' := 41) (ls' := [mv_R 100, mv_I 4, mv_I a, mv_I b, mv_I c, mv_I d, mv_I e, mv_U]) (st' := [mv_I e]) (M1 := M) rfl ?_
              have ha144 : 0 ≤ e ∧ e ≤ 255 := by omega
              refine mv_callPW (st2 := [mv_I 1]) rfl (Or.inr rfl) rfl rfl rfl (sp_mby_t ha144) (by first | decide | omega) ?_
              refine mv_goW 1 (pc' := if 1 = 0 then 47 else 50) (ls' := [mv_R 100, mv_I 4, mv_I a, mv_I b, mv_I c, mv_I d, mv_I e, mv_U]) (st' := []) (M1 := M) rfl ?_
              refine mv_ffW (by decide) ?_
              refine mv_goW 2 (pc' := 54) (ls' := [mv_R 100, mv_I 4, mv_I a, mv_I b, mv_I c, mv_I d, mv_I e, mv_U]) (st' := [mv_I (M 100 9)]) (M1 := M) rfl ?_
              rw [show M 100 9 = (t : Int) from by exact htp.2.1]
              refine mv_goW 4 (pc' := if 160 < (mv_w ((t : Int) + 4)) then 62 else 65) (ls' := [mv_R 100, mv_I 4, mv_I a, mv_I b, mv_I c, mv_I d, mv_I e, mv_U]) (st' := []) (M1 := M) rfl ?_
              rw [show mv_w ((t : Int) + 4) = (t : Int) + 4 from mv_w_id (by omega) (by omega)]
              refine mv_ttW (by omega) ?_
              refine mv_goW 1 (pc' := 64) (ls' := [mv_R 100, mv_I 4, mv_I a, mv_I b, mv_I c, mv_I d, mv_I e, mv_U]) (st' := [mv_I (-4)]) (M1 := M) rfl ?_
              exact mv_retW (fun n => rfl) ⟨congrArg mv_I (by first | with_reducible rfl | omega), hI⟩
            · refine mv_goW 5 (pc' := if 0 < 4 then 78 else 134) (ls' := [mv_R 0, mv_I 4, mv_I a, mv_I b, mv_I c, mv_I d, mv_I e, mv_I 0]) (st' := []) (M1 := M) rfl ?_
              refine mv_ttW (by decide) ?_
              refine mv_goW 4 (pc' := if 0 = 0 then 87 else 91) (ls' := [mv_R 0, mv_I 4, mv_I a, mv_I b, mv_I c, mv_I d, mv_I e, mv_I 0]) (st' := [mv_R 28]) (M1 := M) rfl ?_
              refine mv_ttW (by decide) ?_
              refine mv_goW 2 (pc' := 125) (ls' := [mv_R 0, mv_I 4, mv_I a, mv_I b, mv_I c, mv_I d, mv_I e, mv_I 0]) (st' := [mv_I a, mv_R 28]) (M1 := M) rfl ?_
              refine mv_callW (st2 := []) rfl (Or.inl rfl) rfl rfl rfl (sp_app (t := t) (by first | exact ht28 | rfl) (by omega)) (by first | decide | omega) (fun Ma145 hm146 => ?_)
              subst hm146
              refine mv_goW 5 (pc' := if (mv_w (0 + 1)) < 4 then 78 else 134) (ls' := [mv_R 0, mv_I 4, mv_I a, mv_I b, mv_I c, mv_I d, mv_I e, mv_I (mv_w (0 + 1))]) (st' := []) (M1 := (mv_st (mv_st M 29 (mv_up (M 29) t a)) 28 (mv_up (M 28) 1 ((t + 1 : Nat) : Int)))) rfl ?_
              rw [show mv_w (0 + 1) = 0 + 1 from mv_w_id (by omega) (by omega)]
              refine mv_ttW (by decide) ?_
              refine mv_goW 4 (pc' := if (0 + 1) = 0 then 87 else 91) (ls' := [mv_R 0, mv_I 4, mv_I a, mv_I b, mv_I c, mv_I d, mv_I e, mv_I (0 + 1)]) (st' := [mv_R 28]) (M1 := (mv_st (mv_st M 29 (mv_up (M 29) t a)) 28 (mv_up (M 28) 1 ((t + 1 : Nat) : Int)))) rfl ?_
              refine mv_ffW (by decide) ?_
              refine mv_goW 3 (pc' := if (0 + 1) = 1 then 97 else 101) (ls' := [mv_R 0, mv_I 4, mv_I a, mv_I b, mv_I c, mv_I d, mv_I e, mv_I (0 + 1)]) (st' := [mv_R 28]) (M1 := (mv_st (mv_st M 29 (mv_up (M 29) t a)) 28 (mv_up (M 28) 1 ((t + 1 : Nat) : Int)))) rfl ?_
              refine mv_ttW (by decide) ?_
              refine mv_goW 2 (pc' := 125) (ls' := [mv_R 0, mv_I 4, mv_I a, mv_I b, mv_I c, mv_I d, mv_I e, mv_I (0 + 1)]) (st' := [mv_I b, mv_R 28]) (M1 := (mv_st (mv_st M 29 (mv_up (M 29) t a)) 28 (mv_up (M 28) 1 ((t + 1 : Nat) : Int)))) rfl ?_
              refine mv_callW (st2 := []) rfl (Or.inl rfl) rfl rfl rfl (sp_app (t := t + 1) (by first | exact ht28 | rfl) (by omega)) (by first | decide | omega) (fun Ma147 hm148 => ?_)
              subst hm148
              refine mv_goW 5 (pc' := if (mv_w ((0 + 1) + 1)) < 4 then 78 else 134) (ls' := [mv_R 0, mv_I 4, mv_I a, mv_I b, mv_I c, mv_I d, mv_I e, mv_I (mv_w ((0 + 1) + 1))]) (st' := []) (M1 := (mv_st (mv_st (mv_st (mv_st M 29 (mv_up (M 29) t a)) 28 (mv_up (M 28) 1 ((t + 1 : Nat) : Int))) 29 (mv_up (mv_up (M 29) t a) (t + 1) b)) 28 (mv_up (mv_up (M 28) 1 ((t + 1 : Nat) : Int)) 1 ((t + 2 : Nat) : Int)))) rfl ?_
              rw [show mv_w ((0 + 1) + 1) = (0 + 1) + 1 from mv_w_id (by omega) (by omega)]
              refine mv_ttW (by decide) ?_
              refine mv_goW 4 (pc' := if ((0 + 1) + 1) = 0 then 87 else 91) (ls' := [mv_R 0, mv_I 4, mv_I a, mv_I b, mv_I c, mv_I d, mv_I e, mv_I ((0 + 1) + 1)]) (st' := [mv_R 28]) (M1 := (mv_st (mv_st (mv_st (mv_st M 29 (mv_up (M 29) t a)) 28 (mv_up (M 28) 1 ((t + 1 : Nat) : Int))) 29 (mv_up (mv_up (M 29) t a) (t + 1) b)) 28 (mv_up (mv_up (M 28) 1 ((t + 1 : Nat) : Int)) 1 ((t + 2 : Nat) : Int)))) rfl ?_
              refine mv_ffW (by decide) ?_
              refine mv_goW 3 (pc' := if ((0 + 1) + 1) = 1 then 97 else 101) (ls' := [mv_R 0, mv_I 4, mv_I a, mv_I b, mv_I c, mv_I d, mv_I e, mv_I ((0 + 1) + 1)]) (st' := [mv_R 28]) (M1 := (mv_st (mv_st (mv_st (mv_st M 29 (mv_up (M 29) t a)) 28 (mv_up (M 28) 1 ((t + 1 : Nat) : Int))) 29 (mv_up (mv_up (M 29) t a) (t + 1) b)) 28 (mv_up (mv_up (M 28) 1 ((t + 1 : Nat) : Int)) 1 ((t + 2 : Nat) : Int)))) rfl ?_
              refine mv_ffW (by decide) ?_
              refine mv_goW 3 (pc' := if ((0 + 1) + 1) = 2 then 107 else 112) (ls' := [mv_R 0, mv_I 4, mv_I a, mv_I b, mv_I c, mv_I d, mv_I e, mv_I ((0 + 1) + 1)]) (st' := [mv_R 28]) (M1 := (mv_st (mv_st (mv_st (mv_st M 29 (mv_up (M 29) t a)) 28 (mv_up (M 28) 1 ((t + 1 : Nat) : Int))) 29 (mv_up (mv_up (M 29) t a) (t + 1) b)) 28 (mv_up (mv_up (M 28) 1 ((t + 1 : Nat) : Int)) 1 ((t + 2 : Nat) : Int)))) rfl ?_
              refine mv_ttW (by decide) ?_
              refine mv_goW 2 (pc' := 125) (ls' := [mv_R 0, mv_I 4, mv_I a, mv_I b, mv_I c, mv_I d, mv_I e, mv_I ((0 + 1) + 1)]) (st' := [mv_I c, mv_R 28]) (M1 := (mv_st (mv_st (mv_st (mv_st M 29 (mv_up (M 29) t a)) 28 (mv_up (M 28) 1 ((t + 1 : Nat) : Int))) 29 (mv_up (mv_up (M 29) t a) (t + 1) b)) 28 (mv_up (mv_up (M 28) 1 ((t + 1 : Nat) : Int)) 1 ((t + 2 : Nat) : Int)))) rfl ?_
              refine mv_callW (st2 := []) rfl (Or.inl rfl) rfl rfl rfl (sp_app (t := t + 2) (by first | exact ht28 | rfl) (by omega)) (by first | decide | omega) (fun Ma149 hm150 => ?_)
              subst hm150
              refine mv_goW 5 (pc' := if (mv_w (((0 + 1) + 1) + 1)) < 4 then 78 else 134) (ls' := [mv_R 0, mv_I 4, mv_I a, mv_I b, mv_I c, mv_I d, mv_I e, mv_I (mv_w (((0 + 1) + 1) + 1))]) (st' := []) (M1 := (mv_st (mv_st (mv_st (mv_st (mv_st (mv_st M 29 (mv_up (M 29) t a)) 28 (mv_up (M 28) 1 ((t + 1 : Nat) : Int))) 29 (mv_up (mv_up (M 29) t a) (t + 1) b)) 28 (mv_up (mv_up (M 28) 1 ((t + 1 : Nat) : Int)) 1 ((t + 2 : Nat) : Int))) 29 (mv_up (mv_up (mv_up (M 29) t a) (t + 1) b) (t + 2) c)) 28 (mv_up (mv_up (mv_up (M 28) 1 ((t + 1 : Nat) : Int)) 1 ((t + 2 : Nat) : Int)) 1 ((t + 3 : Nat) : Int)))) rfl ?_
              rw [show mv_w (((0 + 1) + 1) + 1) = ((0 + 1) + 1) + 1 from mv_w_id (by omega) (by omega)]
              refine mv_ttW (by decide) ?_
              refine mv_goW 4 (pc' := if (((0 + 1) + 1) + 1) = 0 then 87 else 91) (ls' := [mv_R 0, mv_I 4, mv_I a, mv_I b, mv_I c, mv_I d, mv_I e, mv_I (((0 + 1) + 1) + 1)]) (st' := [mv_R 28]) (M1 := (mv_st (mv_st (mv_st (mv_st (mv_st (mv_st M 29 (mv_up (M 29) t a)) 28 (mv_up (M 28) 1 ((t + 1 : Nat) : Int))) 29 (mv_up (mv_up (M 29) t a) (t + 1) b)) 28 (mv_up (mv_up (M 28) 1 ((t + 1 : Nat) : Int)) 1 ((t + 2 : Nat) : Int))) 29 (mv_up (mv_up (mv_up (M 29) t a) (t + 1) b) (t + 2) c)) 28 (mv_up (mv_up (mv_up (M 28) 1 ((t + 1 : Nat) : Int)) 1 ((t + 2 : Nat) : Int)) 1 ((t + 3 : Nat) : Int)))) rfl ?_
              refine mv_ffW (by decide) ?_
              refine mv_goW 3 (pc' := if (((0 + 1) + 1) + 1) = 1 then 97 else 101) (ls' := [mv_R 0, mv_I 4, mv_I a, mv_I b, mv_I c, mv_I d, mv_I e, mv_I (((0 + 1) + 1) + 1)]) (st' := [mv_R 28]) (M1 := (mv_st (mv_st (mv_st (mv_st (mv_st (mv_st M 29 (mv_up (M 29) t a)) 28 (mv_up (M 28) 1 ((t + 1 : Nat) : Int))) 29 (mv_up (mv_up (M 29) t a) (t + 1) b)) 28 (mv_up (mv_up (M 28) 1 ((t + 1 : Nat) : Int)) 1 ((t + 2 : Nat) : Int))) 29 (mv_up (mv_up (mv_up (M 29) t a) (t + 1) b) (t + 2) c)) 28 (mv_up (mv_up (mv_up (M 28) 1 ((t + 1 : Nat) : Int)) 1 ((t + 2 : Nat) : Int)) 1 ((t + 3 : Nat) : Int)))) rfl ?_
              refine mv_ffW (by decide) ?_
              refine mv_goW 3 (pc' := if (((0 + 1) + 1) + 1) = 2 then 107 else 112) (ls' := [mv_R 0, mv_I 4, mv_I a, mv_I b, mv_I c, mv_I d, mv_I e, mv_I (((0 + 1) + 1) + 1)]) (st' := [mv_R 28]) (M1 := (mv_st (mv_st (mv_st (mv_st (mv_st (mv_st M 29 (mv_up (M 29) t a)) 28 (mv_up (M 28) 1 ((t + 1 : Nat) : Int))) 29 (mv_up (mv_up (M 29) t a) (t + 1) b)) 28 (mv_up (mv_up (M 28) 1 ((t + 1 : Nat) : Int)) 1 ((t + 2 : Nat) : Int))) 29 (mv_up (mv_up (mv_up (M 29) t a) (t + 1) b) (t + 2) c)) 28 (mv_up (mv_up (mv_up (M 28) 1 ((t + 1 : Nat) : Int)) 1 ((t + 2 : Nat) : Int)) 1 ((t + 3 : Nat) : Int)))) rfl ?_
              refine mv_ffW (by decide) ?_
              refine mv_goW 3 (pc' := if (((0 + 1) + 1) + 1) = 3 then 118 else 123) (ls' := [mv_R 0, mv_I 4, mv_I a, mv_I b, mv_I c, mv_I d, mv_I e, mv_I (((0 + 1) + 1) + 1)]) (st' := [mv_R 28]) (M1 := (mv_st (mv_st (mv_st (mv_st (mv_st (mv_st M 29 (mv_up (M 29) t a)) 28 (mv_up (M 28) 1 ((t + 1 : Nat) : Int))) 29 (mv_up (mv_up (M 29) t a) (t + 1) b)) 28 (mv_up (mv_up (M 28) 1 ((t + 1 : Nat) : Int)) 1 ((t + 2 : Nat) : Int))) 29 (mv_up (mv_up (mv_up (M 29) t a) (t + 1) b) (t + 2) c)) 28 (mv_up (mv_up (mv_up (M 28) 1 ((t + 1 : Nat) : Int)) 1 ((t + 2 : Nat) : Int)) 1 ((t + 3 : Nat) : Int)))) rfl ?_
              refine mv_ttW (by decide) ?_
              refine mv_goW 2 (pc' := 125) (ls' := [mv_R 0, mv_I 4, mv_I a, mv_I b, mv_I c, mv_I d, mv_I e, mv_I (((0 + 1) + 1) + 1)]) (st' := [mv_I d, mv_R 28]) (M1 := (mv_st (mv_st (mv_st (mv_st (mv_st (mv_st M 29 (mv_up (M 29) t a)) 28 (mv_up (M 28) 1 ((t + 1 : Nat) : Int))) 29 (mv_up (mv_up (M 29) t a) (t + 1) b)) 28 (mv_up (mv_up (M 28) 1 ((t + 1 : Nat) : Int)) 1 ((t + 2 : Nat) : Int))) 29 (mv_up (mv_up (mv_up (M 29) t a) (t + 1) b) (t + 2) c)) 28 (mv_up (mv_up (mv_up (M 28) 1 ((t + 1 : Nat) : Int)) 1 ((t + 2 : Nat) : Int)) 1 ((t + 3 : Nat) : Int)))) rfl ?_
              refine mv_callW (st2 := []) rfl (Or.inl rfl) rfl rfl rfl (sp_app (t := t + 3) (by first | exact ht28 | rfl) (by omega)) (by first | decide | omega) (fun Ma151 hm152 => ?_)
              subst hm152
              refine mv_goW 5 (pc' := if (mv_w ((((0 + 1) + 1) + 1) + 1)) < 4 then 78 else 134) (ls' := [mv_R 0, mv_I 4, mv_I a, mv_I b, mv_I c, mv_I d, mv_I e, mv_I (mv_w ((((0 + 1) + 1) + 1) + 1))]) (st' := []) (M1 := (mv_st (mv_st (mv_st (mv_st (mv_st (mv_st (mv_st (mv_st M 29 (mv_up (M 29) t a)) 28 (mv_up (M 28) 1 ((t + 1 : Nat) : Int))) 29 (mv_up (mv_up (M 29) t a) (t + 1) b)) 28 (mv_up (mv_up (M 28) 1 ((t + 1 : Nat) : Int)) 1 ((t + 2 : Nat) : Int))) 29 (mv_up (mv_up (mv_up (M 29) t a) (t + 1) b) (t + 2) c)) 28 (mv_up (mv_up (mv_up (M 28) 1 ((t + 1 : Nat) : Int)) 1 ((t + 2 : Nat) : Int)) 1 ((t + 3 : Nat) : Int))) 29 (mv_up (mv_up (mv_up (mv_up (M 29) t a) (t + 1) b) (t + 2) c) (t + 3) d)) 28 (mv_up (mv_up (mv_up (mv_up (M 28) 1 ((t + 1 : Nat) : Int)) 1 ((t + 2 : Nat) : Int)) 1 ((t + 3 : Nat) : Int)) 1 ((t + 4 : Nat) : Int)))) rfl ?_
              rw [show mv_w ((((0 + 1) + 1) + 1) + 1) = (((0 + 1) + 1) + 1) + 1 from mv_w_id (by omega) (by omega)]
              refine mv_ffW (by decide) ?_
              refine mv_goW 3 (pc' := 141) (ls' := [mv_R 0, mv_I 4, mv_I a, mv_I b, mv_I c, mv_I d, mv_I e, mv_I ((((0 + 1) + 1) + 1) + 1)]) (st' := [mv_I ((t + 4 : Nat) : Int)]) (M1 := (mv_st (mv_st (mv_st (mv_st (mv_st (mv_st (mv_st (mv_st M 29 (mv_up (M 29) t a)) 28 (mv_up (M 28) 1 ((t + 1 : Nat) : Int))) 29 (mv_up (mv_up (M 29) t a) (t + 1) b)) 28 (mv_up (mv_up (M 28) 1 ((t + 1 : Nat) : Int)) 1 ((t + 2 : Nat) : Int))) 29 (mv_up (mv_up (mv_up (M 29) t a) (t + 1) b) (t + 2) c)) 28 (mv_up (mv_up (mv_up (M 28) 1 ((t + 1 : Nat) : Int)) 1 ((t + 2 : Nat) : Int)) 1 ((t + 3 : Nat) : Int))) 29 (mv_up (mv_up (mv_up (mv_up (M 29) t a) (t + 1) b) (t + 2) c) (t + 3) d)) 28 (mv_up (mv_up (mv_up (mv_up (M 28) 1 ((t + 1 : Nat) : Int)) 1 ((t + 2 : Nat) : Int)) 1 ((t + 3 : Nat) : Int)) 1 ((t + 4 : Nat) : Int)))) rfl ?_
              refine mv_retW (fun n => rfl) ⟨_, rfl, ?_⟩
              refine mv_goW 3 (pc' := 3) (ls' := [mv_R 100, mv_I 4, mv_I a, mv_I b, mv_I c, mv_I d, mv_I e, mv_U]) (st' := [mv_I 5, mv_I 1, mv_I 4]) (M1 := (mv_st (mv_st (mv_st (mv_st (mv_st (mv_st (mv_st (mv_st M 29 (mv_up (M 29) t a)) 28 (mv_up (M 28) 1 ((t + 1 : Nat) : Int))) 29 (mv_up (mv_up (M 29) t a) (t + 1) b)) 28 (mv_up (mv_up (M 28) 1 ((t + 1 : Nat) : Int)) 1 ((t + 2 : Nat) : Int))) 29 (mv_up (mv_up (mv_up (M 29) t a) (t + 1) b) (t + 2) c)) 28 (mv_up (mv_up (mv_up (M 28) 1 ((t + 1 : Nat) : Int)) 1 ((t + 2 : Nat) : Int)) 1 ((t + 3 : Nat) : Int))) 29 (mv_up (mv_up (mv_up (mv_up (M 29) t a) (t + 1) b) (t + 2) c) (t + 3) d)) 28 (mv_up (mv_up (mv_up (mv_up (M 28) 1 ((t + 1 : Nat) : Int)) 1 ((t + 2 : Nat) : Int)) 1 ((t + 3 : Nat) : Int)) 1 ((t + 4 : Nat) : Int)))) rfl ?_
              have ha153 : (1 : Int) ≤ (4 : Int) ∧ (4 : Int) ≤ (5 : Int) := by omega
              refine mv_callPW (st2 := [mv_I 1]) rfl (Or.inr rfl) rfl rfl rfl (sp_min_t ha153) (by first | decide | omega) ?_
              refine mv_goW 1 (pc' := if 1 = 0 then 47 else 9) (ls' := [mv_R 100, mv_I 4, mv_I a, mv_I b, mv_I c, mv_I d, mv_I e, mv_U]) (st' := []) (M1 := (mv_st (mv_st (mv_st (mv_st (mv_st (mv_st (mv_st (mv_st M 29 (mv_up (M 29) t a)) 28 (mv_up (M 28) 1 ((t + 1 : Nat) : Int))) 29 (mv_up (mv_up (M 29) t a) (t + 1) b)) 28 (mv_up (mv_up (M 28) 1 ((t + 1 : Nat) : Int)) 1 ((t + 2 : Nat) : Int))) 29 (mv_up (mv_up (mv_up (M 29) t a) (t + 1) b) (t + 2) c)) 28 (mv_up (mv_up (mv_up (M 28) 1 ((t + 1 : Nat) : Int)) 1 ((t + 2 : Nat) : Int)) 1 ((t + 3 : Nat) : Int))) 29 (mv_up (mv_up (mv_up (mv_up (M 29) t a) (t + 1) b) (t + 2) c) (t + 3) d)) 28 (mv_up (mv_up (mv_up (mv_up (M 28) 1 ((t + 1 : Nat) : Int)) 1 ((t + 2 : Nat) : Int)) 1 ((t + 3 : Nat) : Int)) 1 ((t + 4 : Nat) : Int)))) rfl ?_
              refine mv_ffW (by decide) ?_
              refine mv_goW 1 (pc' := 10) (ls' := [mv_R 100, mv_I 4, mv_I a, mv_I b, mv_I c, mv_I d, mv_I e, mv_U]) (st' := [mv_I a]) (M1 := (mv_st (mv_st (mv_st (mv_st (mv_st (mv_st (mv_st (mv_st M 29 (mv_up (M 29) t a)) 28 (mv_up (M 28) 1 ((t + 1 : Nat) : Int))) 29 (mv_up (mv_up (M 29) t a) (t + 1) b)) 28 (mv_up (mv_up (M 28) 1 ((t + 1 : Nat) : Int)) 1 ((t + 2 : Nat) : Int))) 29 (mv_up (mv_up (mv_up (M 29) t a) (t + 1) b) (t + 2) c)) 28 (mv_up (mv_up (mv_up (M 28) 1 ((t + 1 : Nat) : Int)) 1 ((t + 2 : Nat) : Int)) 1 ((t + 3 : Nat) : Int))) 29 (mv_up (mv_up (mv_up (mv_up (M 29) t a) (t + 1) b) (t + 2) c) (t + 3) d)) 28 (mv_up (mv_up (mv_up (mv_up (M 28) 1 ((t + 1 : Nat) : Int)) 1 ((t + 2 : Nat) : Int)) 1 ((t + 3 : Nat) : Int)) 1 ((t + 4 : Nat) : Int)))) rfl ?_
              have ha154 : 0 ≤ a ∧ a ≤ 255 := by omega
              refine mv_callPW (st2 := [mv_I 1]) rfl (Or.inr rfl) rfl rfl rfl (sp_mby_t ha154) (by first | decide | omega) ?_
              refine mv_goW 1 (pc' := if 1 = 0 then 47 else 16) (ls' := [mv_R 100, mv_I 4, mv_I a, mv_I b, mv_I c, mv_I d, mv_I e, mv_U]) (st' := []) (M1 := (mv_st (mv_st (mv_st (mv_st (mv_st (mv_st (mv_st (mv_st M 29 (mv_up (M 29) t a)) 28 (mv_up (M 28) 1 ((t + 1 : Nat) : Int))) 29 (mv_up (mv_up (M 29) t a) (t + 1) b)) 28 (mv_up (mv_up (M 28) 1 ((t + 1 : Nat) : Int)) 1 ((t + 2 : Nat) : Int))) 29 (mv_up (mv_up (mv_up (M 29) t a) (t + 1) b) (t + 2) c)) 28 (mv_up (mv_up (mv_up (M 28) 1 ((t + 1 : Nat) : Int)) 1 ((t + 2 : Nat) : Int)) 1 ((t + 3 : Nat) : Int))) 29 (mv_up (mv_up (mv_up (mv_up (M 29) t a) (t + 1) b) (t + 2) c) (t + 3) d)) 28 (mv_up (mv_up (mv_up (mv_up (M 28) 1 ((t + 1 : Nat) : Int)) 1 ((t + 2 : Nat) : Int)) 1 ((t + 3 : Nat) : Int)) 1 ((t + 4 : Nat) : Int)))) rfl ?_
              refine mv_ffW (by decide) ?_
              refine mv_goW 1 (pc' := 17) (ls' := [mv_R 100, mv_I 4, mv_I a, mv_I b, mv_I c, mv_I d, mv_I e, mv_U]) (st' := [mv_I b]) (M1 := (mv_st (mv_st (mv_st (mv_st (mv_st (mv_st (mv_st (mv_st M 29 (mv_up (M 29) t a)) 28 (mv_up (M 28) 1 ((t + 1 : Nat) : Int))) 29 (mv_up (mv_up (M 29) t a) (t + 1) b)) 28 (mv_up (mv_up (M 28) 1 ((t + 1 : Nat) : Int)) 1 ((t + 2 : Nat) : Int))) 29 (mv_up (mv_up (mv_up (M 29) t a) (t + 1) b) (t + 2) c)) 28 (mv_up (mv_up (mv_up (M 28) 1 ((t + 1 : Nat) : Int)) 1 ((t + 2 : Nat) : Int)) 1 ((t + 3 : Nat) : Int))) 29 (mv_up (mv_up (mv_up (mv_up (M 29) t a) (t + 1) b) (t + 2) c) (t + 3) d)) 28 (mv_up (mv_up (mv_up (mv_up (M 28) 1 ((t + 1 : Nat) : Int)) 1 ((t + 2 : Nat) : Int)) 1 ((t + 3 : Nat) : Int)) 1 ((t + 4 : Nat) : Int)))) rfl ?_
              have ha155 : 0 ≤ b ∧ b ≤ 255 := by omega
              refine mv_callPW (st2 := [mv_I 1]) rfl (Or.inr rfl) rfl rfl rfl (sp_mby_t ha155) (by first | decide | omega) ?_
              refine mv_goW 1 (pc' := if 1 = 0 then 47 else 23) (ls' := [mv_R 100, mv_I 4, mv_I a, mv_I b, mv_I c, mv_I d, mv_I e, mv_U]) (st' := []) (M1 := (mv_st (mv_st (mv_st (mv_st (mv_st (mv_st (mv_st (mv_st M 29 (mv_up (M 29) t a)) 28 (mv_up (M 28) 1 ((t + 1 : Nat) : Int))) 29 (mv_up (mv_up (M 29) t a) (t + 1) b)) 28 (mv_up (mv_up (M 28) 1 ((t + 1 : Nat) : Int)) 1 ((t + 2 : Nat) : Int))) 29 (mv_up (mv_up (mv_up (M 29) t a) (t + 1) b) (t + 2) c)) 28 (mv_up (mv_up (mv_up (M 28) 1 ((t + 1 : Nat) : Int)) 1 ((t + 2 : Nat) : Int)) 1 ((t + 3 : Nat) : Int))) 29 (mv_up (mv_up (mv_up (mv_up (M 29) t a) (t + 1) b) (t + 2) c) (t + 3) d)) 28 (mv_up (mv_up (mv_up (mv_up (M 28) 1 ((t + 1 : Nat) : Int)) 1 ((t + 2 : Nat) : Int)) 1 ((t + 3 : Nat) : Int)) 1 ((t + 4 : Nat) : Int)))) rfl ?_
              refine mv_ffW (by decide) ?_
              refine mv_goW 1 (pc' := 25) (ls' := [mv_R 100, mv_I 4, mv_I a, mv_I b, mv_I c, mv_I d, mv_I e, mv_U]) (st' := [mv_I c]) (M1 := (mv_st (mv_st (mv_st (mv_st (mv_st (mv_st (mv_st (mv_st M 29 (mv_up (M 29) t a)) 28 (mv_up (M 28) 1 ((t + 1 : Nat) : Int))) 29 (mv_up (mv_up (M 29) t a) (t + 1) b)) 28 (mv_up (mv_up (M 28) 1 ((t + 1 : Nat) : Int)) 1 ((t + 2 : Nat) : Int))) 29 (mv_up (mv_up (mv_up (M 29) t a) (t + 1) b) (t + 2) c)) 28 (mv_up (mv_up (mv_up (M 28) 1 ((t + 1 : Nat) : Int)) 1 ((t + 2 : Nat) : Int)) 1 ((t + 3 : Nat) : Int))) 29 (mv_up (mv_up (mv_up (mv_up (M 29) t a) (t + 1) b) (t + 2) c) (t + 3) d)) 28 (mv_up (mv_up (mv_up (mv_up (M 28) 1 ((t + 1 : Nat) : Int)) 1 ((t + 2 : Nat) : Int)) 1 ((t + 3 : Nat) : Int)) 1 ((t + 4 : Nat) : Int)))) rfl ?_
              have ha156 : 0 ≤ c ∧ c ≤ 255 := by omega
              refine mv_callPW (st2 := [mv_I 1]) rfl (Or.inr rfl) rfl rfl rfl (sp_mby_t ha156) (by first | decide | omega) ?_
              refine mv_goW 1 (pc' := if 1 = 0 then 47 else 31) (ls' := [mv_R 100, mv_I 4, mv_I a, mv_I b, mv_I c, mv_I d, mv_I e, mv_U]) (st' := []) (M1 := (mv_st (mv_st (mv_st (mv_st (mv_st (mv_st (mv_st (mv_st M 29 (mv_up (M 29) t a)) 28 (mv_up (M 28) 1 ((t + 1 : Nat) : Int))) 29 (mv_up (mv_up (M 29) t a) (t + 1) b)) 28 (mv_up (mv_up (M 28) 1 ((t + 1 : Nat) : Int)) 1 ((t + 2 : Nat) : Int))) 29 (mv_up (mv_up (mv_up (M 29) t a) (t + 1) b) (t + 2) c)) 28 (mv_up (mv_up (mv_up (M 28) 1 ((t + 1 : Nat) : Int)) 1 ((t + 2 : Nat) : Int)) 1 ((t + 3 : Nat) : Int))) 29 (mv_up (mv_up (mv_up (mv_up (M 29) t a) (t + 1) b) (t + 2) c) (t + 3) d)) 28 (mv_up (mv_up (mv_up (mv_up (M 28) 1 ((t + 1 : Nat) : Int)) 1 ((t + 2 : Nat) : Int)) 1 ((t + 3 : Nat) : Int)) 1 ((t + 4 : Nat) : Int)))) rfl ?_
              refine mv_ffW (by decide) ?_
              refine mv_goW 1 (pc' := 33) (ls' := [mv_R 100, mv_I 4, mv_I a, mv_I b, mv_I c, mv_I d, mv_I e, mv_U]) (st' := [mv_I d]) (M1 := (mv_st (mv_st (mv_st (mv_st (mv_st (mv_st (mv_st (mv_st M 29 (mv_up (M 29) t a)) 28 (mv_up (M 28) 1 ((t + 1 : Nat) : Int))) 29 (mv_up (mv_up (M 29) t a) (t + 1) b)) 28 (mv_up (mv_up (M 28) 1 ((t + 1 : Nat) : Int)) 1 ((t + 2 : Nat) : Int))) 29 (mv_up (mv_up (mv_up (M 29) t a) (t + 1) b) (t + 2) c)) 28 (mv_up (mv_up (mv_up (M 28) 1 ((t + 1 : Nat) : Int)) 1 ((t + 2 : Nat) : Int)) 1 ((t + 3 : Nat) : Int))) 29 (mv_up (mv_up (mv_up (mv_up (M 29) t a) (t + 1) b) (t + 2) c) (t + 3) d)) 28 (mv_up (mv_up (mv_up (mv_up (M 28) 1 ((t + 1 : Nat) : Int)) 1 ((t + 2 : Nat) : Int)) 1 ((t + 3 : Nat) : Int)) 1 ((t + 4 : Nat) : Int)))) rfl ?_
              have ha157 : 0 ≤ d ∧ d ≤ 255 := by omega
              refine mv_callPW (st2 := [mv_I 1]) rfl (Or.inr rfl) rfl rfl rfl (sp_mby_t ha157) (by first | decide | omega) ?_
              refine mv_goW 1 (pc' := if 1 = 0 then 47 else 39) (ls' := [mv_R 100, mv_I 4, mv_I a, mv_I b, mv_I c, mv_I d, mv_I e, mv_U]) (st' := []) (M1 := (mv_st (mv_st (mv_st (mv_st (mv_st (mv_st (mv_st (mv_st M 29 (mv_up (M 29) t a)) 28 (mv_up (M 28) 1 ((t + 1 : Nat) : Int))) 29 (mv_up (mv_up (M 29) t a) (t + 1) b)) 28 (mv_up (mv_up (M 28) 1 ((t + 1 : Nat) : Int)) 1 ((t + 2 : Nat) : Int))) 29 (mv_up (mv_up (mv_up (M 29) t a) (t + 1) b) (t + 2) c)) 28 (mv_up (mv_up (mv_up (M 28) 1 ((t + 1 : Nat) : Int)) 1 ((t + 2 : Nat) : Int)) 1 ((t + 3 : Nat) : Int))) 29 (mv_up (mv_up (mv_up (mv_up (M 29) t a) (t + 1) b) (t + 2) c) (t + 3) d)) 28 (mv_up (mv_up (mv_up (mv_up (M 28) 1 ((t + 1 : Nat) : Int)) 1 ((t + 2 : Nat) : Int)) 1 ((t + 3 : Nat) : Int)) 1 ((t + 4 : Nat) : Int)))) rfl ?_
              refine mv_ffW (by decide) ?_
              refine mv_goW 1 (pc' := 41) (ls' := [mv_R 100, mv_I 4, mv_I a, mv_I b, mv_I c, mv_I d, mv_I e, mv_U]) (st' := [mv_I e]) (M1 := (mv_st (mv_st (mv_st (mv_st (mv_st (mv_st (mv_st (mv_st M 29 (mv_up (M 29) t a)) 28 (mv_up (M 28) 1 ((t + 1 : Nat) : Int))) 29 (mv_up (mv_up (M 29) t a) (t + 1) b)) 28 (mv_up (mv_up (M 28) 1 ((t + 1 : Nat) : Int)) 1 ((t + 2 : Nat) : Int))) 29 (mv_up (mv_up (mv_up (M 29) t a) (t + 1) b) (t + 2) c)) 28 (mv_up (mv_up (mv_up (M 28) 1 ((t + 1 : Nat) : Int)) 1 ((t + 2 : Nat) : Int)) 1 ((t + 3 : Nat) : Int))) 29 (mv_up (mv_up (mv_up (mv_up (M 29) t a) (t + 1) b) (t + 2) c) (t + 3) d)) 28 (mv_up (mv_up (mv_up (mv_up (M 28) 1 ((t + 1 : Nat) : Int)) 1 ((t + 2 : Nat) : Int)) 1 ((t + 3 : Nat) : Int)) 1 ((t + 4 : Nat) : Int)))) rfl ?_
              have ha158 : 0 ≤ e ∧ e ≤ 255 := by omega
              refine mv_callPW (st2 := [mv_I 1]) rfl (Or.inr rfl) rfl rfl rfl (sp_mby_t ha158) (by first | decide | omega) ?_
              refine mv_goW 1 (pc' := if 1 = 0 then 47 else 50) (ls' := [mv_R 100, mv_I 4, mv_I a, mv_I b, mv_I c, mv_I d, mv_I e, mv_U]) (st' := []) (M1 := (mv_st (mv_st (mv_st (mv_st (mv_st (mv_st (mv_st (mv_st M 29 (mv_up (M 29) t a)) 28 (mv_up (M 28) 1 ((t + 1 : Nat) : Int))) 29 (mv_up (mv_up (M 29) t a) (t + 1) b)) 28 (mv_up (mv_up (M 28) 1 ((t + 1 : Nat) : Int)) 1 ((t + 2 : Nat) : Int))) 29 (mv_up (mv_up (mv_up (M 29) t a) (t + 1) b) (t + 2) c)) 28 (mv_up (mv_up (mv_up (M 28) 1 ((t + 1 : Nat) : Int)) 1 ((t + 2 : Nat) : Int)) 1 ((t + 3 : Nat) : Int))) 29 (mv_up (mv_up (mv_up (mv_up (M 29) t a) (t + 1) b) (t + 2) c) (t + 3) d)) 28 (mv_up (mv_up (mv_up (mv_up (M 28) 1 ((t + 1 : Nat) : Int)) 1 ((t + 2 : Nat) : Int)) 1 ((t + 3 : Nat) : Int)) 1 ((t + 4 : Nat) : Int)))) rfl ?_
              refine mv_ffW (by decide) ?_
              refine mv_goW 2 (pc' := 54) (ls' := [mv_R 100, mv_I 4, mv_I a, mv_I b, mv_I c, mv_I d, mv_I e, mv_U]) (st' := [mv_I (M 100 9)]) (M1 := (mv_st (mv_st (mv_st (mv_st (mv_st (mv_st (mv_st (mv_st M 29 (mv_up (M 29) t a)) 28 (mv_up (M 28) 1 ((t + 1 : Nat) : Int))) 29 (mv_up (mv_up (M 29) t a) (t + 1) b)) 28 (mv_up (mv_up (M 28) 1 ((t + 1 : Nat) : Int)) 1 ((t + 2 : Nat) : Int))) 29 (mv_up (mv_up (mv_up (M 29) t a) (t + 1) b) (t + 2) c)) 28 (mv_up (mv_up (mv_up (M 28) 1 ((t + 1 : Nat) : Int)) 1 ((t + 2 : Nat) : Int)) 1 ((t + 3 : Nat) : Int))) 29 (mv_up (mv_up (mv_up (mv_up (M 29) t a) (t + 1) b) (t + 2) c) (t + 3) d)) 28 (mv_up (mv_up (mv_up (mv_up (M 28) 1 ((t + 1 : Nat) : Int)) 1 ((t + 2 : Nat) : Int)) 1 ((t + 3 : Nat) : Int)) 1 ((t + 4 : Nat) : Int)))) rfl ?_
              rw [show M 100 9 = (t : Int) from by exact htp.2.1]
              refine mv_goW 4 (pc' := if 160 < (mv_w ((t : Int) + 4)) then 62 else 65) (ls' := [mv_R 100, mv_I 4, mv_I a, mv_I b, mv_I c, mv_I d, mv_I e, mv_U]) (st' := []) (M1 := (mv_st (mv_st (mv_st (mv_st (mv_st (mv_st (mv_st (mv_st M 29 (mv_up (M 29) t a)) 28 (mv_up (M 28) 1 ((t + 1 : Nat) : Int))) 29 (mv_up (mv_up (M 29) t a) (t + 1) b)) 28 (mv_up (mv_up (M 28) 1 ((t + 1 : Nat) : Int)) 1 ((t + 2 : Nat) : Int))) 29 (mv_up (mv_up (mv_up (M 29) t a) (t + 1) b) (t + 2) c)) 28 (mv_up (mv_up (mv_up (M 28) 1 ((t + 1 : Nat) : Int)) 1 ((t + 2 : Nat) : Int)) 1 ((t + 3 : Nat) : Int))) 29 (mv_up (mv_up (mv_up (mv_up (M 29) t a) (t + 1) b) (t + 2) c) (t + 3) d)) 28 (mv_up (mv_up (mv_up (mv_up (M 28) 1 ((t + 1 : Nat) : Int)) 1 ((t + 2 : Nat) : Int)) 1 ((t + 3 : Nat) : Int)) 1 ((t + 4 : Nat) : Int)))) rfl ?_
              rw [show mv_w ((t : Int) + 4) = (t : Int) + 4 from mv_w_id (by omega) (by omega)]
              refine mv_ffW (by omega) ?_
              refine mv_goW 5 (pc' := if 0 < 4 then 74 else 142) (ls' := [mv_R 100, mv_I 4, mv_I a, mv_I b, mv_I c, mv_I d, mv_I e, mv_I 0]) (st' := []) (M1 := (mv_st (mv_st (mv_st (mv_st (mv_st (mv_st (mv_st (mv_st M 29 (mv_up (M 29) t a)) 28 (mv_up (M 28) 1 ((t + 1 : Nat) : Int))) 29 (mv_up (mv_up (M 29) t a) (t + 1) b)) 28 (mv_up (mv_up (M 28) 1 ((t + 1 : Nat) : Int)) 1 ((t + 2 : Nat) : Int))) 29 (mv_up (mv_up (mv_up (M 29) t a) (t + 1) b) (t + 2) c)) 28 (mv_up (mv_up (mv_up (M 28) 1 ((t + 1 : Nat) : Int)) 1 ((t + 2 : Nat) : Int)) 1 ((t + 3 : Nat) : Int))) 29 (mv_up (mv_up (mv_up (mv_up (M 29) t a) (t + 1) b) (t + 2) c) (t + 3) d)) 28 (mv_up (mv_up (mv_up (mv_up (M 28) 1 ((t + 1 : Nat) : Int)) 1 ((t + 2 : Nat) : Int)) 1 ((t + 3 : Nat) : Int)) 1 ((t + 4 : Nat) : Int)))) rfl ?_
              refine mv_ttW (by decide) ?_
              refine mv_goW 4 (pc' := 82) (ls' := [mv_R 100, mv_I 4, mv_I a, mv_I b, mv_I c, mv_I d, mv_I e, mv_I 0]) (st' := [mv_I (M 100 9), mv_R 108]) (M1 := (mv_st (mv_st (mv_st (mv_st (mv_st (mv_st (mv_st (mv_st M 29 (mv_up (M 29) t a)) 28 (mv_up (M 28) 1 ((t + 1 : Nat) : Int))) 29 (mv_up (mv_up (M 29) t a) (t + 1) b)) 28 (mv_up (mv_up (M 28) 1 ((t + 1 : Nat) : Int)) 1 ((t + 2 : Nat) : Int))) 29 (mv_up (mv_up (mv_up (M 29) t a) (t + 1) b) (t + 2) c)) 28 (mv_up (mv_up (mv_up (M 28) 1 ((t + 1 : Nat) : Int)) 1 ((t + 2 : Nat) : Int)) 1 ((t + 3 : Nat) : Int))) 29 (mv_up (mv_up (mv_up (mv_up (M 29) t a) (t + 1) b) (t + 2) c) (t + 3) d)) 28 (mv_up (mv_up (mv_up (mv_up (M 28) 1 ((t + 1 : Nat) : Int)) 1 ((t + 2 : Nat) : Int)) 1 ((t + 3 : Nat) : Int)) 1 ((t + 4 : Nat) : Int)))) rfl ?_
              rw [show M 100 9 = (t : Int) from by exact htp.2.1]
              refine mv_goW 2 (pc' := if 0 = 0 then 87 else 91) (ls' := [mv_R 100, mv_I 4, mv_I a, mv_I b, mv_I c, mv_I d, mv_I e, mv_I 0]) (st' := [mv_I (t : Int), mv_R 108]) (M1 := (mv_st (mv_st (mv_st (mv_st (mv_st (mv_st (mv_st (mv_st M 29 (mv_up (M 29) t a)) 28 (mv_up (M 28) 1 ((t + 1 : Nat) : Int))) 29 (mv_up (mv_up (M 29) t a) (t + 1) b)) 28 (mv_up (mv_up (M 28) 1 ((t + 1 : Nat) : Int)) 1 ((t + 2 : Nat) : Int))) 29 (mv_up (mv_up (mv_up (M 29) t a) (t + 1) b) (t + 2) c)) 28 (mv_up (mv_up (mv_up (M 28) 1 ((t + 1 : Nat) : Int)) 1 ((t + 2 : Nat) : Int)) 1 ((t + 3 : Nat) : Int))) 29 (mv_up (mv_up (mv_up (mv_up (M 29) t a) (t + 1) b) (t + 2) c) (t + 3) d)) 28 (mv_up (mv_up (mv_up (mv_up (M 28) 1 ((t + 1 : Nat) : Int)) 1 ((t + 2 : Nat) : Int)) 1 ((t + 3 : Nat) : Int)) 1 ((t + 4 : Nat) : Int)))) rfl ?_
              refine mv_ttW (by decide) ?_
              refine mv_goW 3 (pc' := if 0 ≤ (t : Int) ∧ (t : Int) < 160 then 126 else mv_bad) (ls' := [mv_R 100, mv_I 4, mv_I a, mv_I b, mv_I c, mv_I d, mv_I e, mv_I 0]) (st' := []) (M1 := (mv_st (mv_st (mv_st (mv_st (mv_st (mv_st (mv_st (mv_st (mv_st M 29 (mv_up (M 29) t a)) 28 (mv_up (M 28) 1 ((t + 1 : Nat) : Int))) 29 (mv_up (mv_up (M 29) t a) (t + 1) b)) 28 (mv_up (mv_up (M 28) 1 ((t + 1 : Nat) : Int)) 1 ((t + 2 : Nat) : Int))) 29 (mv_up (mv_up (mv_up (M 29) t a) (t + 1) b) (t + 2) c)) 28 (mv_up (mv_up (mv_up (M 28) 1 ((t + 1 : Nat) : Int)) 1 ((t + 2 : Nat) : Int)) 1 ((t + 3 : Nat) : Int))) 29 (mv_up (mv_up (mv_up (mv_up (M 29) t a) (t + 1) b) (t + 2) c) (t + 3) d)) 28 (mv_up (mv_up (mv_up (mv_up (M 28) 1 ((t + 1 : Nat) : Int)) 1 ((t + 2 : Nat) : Int)) 1 ((t + 3 : Nat) : Int)) 1 ((t + 4 : Nat) : Int))) 108 (mv_up (M 108) t a))) rfl ?_
              refine mv_ttW (by omega) ?_
              refine mv_goW 3 (pc' := 131) (ls' := [mv_R 100, mv_I 4, mv_I a, mv_I b, mv_I c, mv_I d, mv_I e, mv_I 0]) (st' := [mv_I (M 100 9), mv_R 100]) (M1 := (mv_st (mv_st (mv_st (mv_st (mv_st (mv_st (mv_st (mv_st (mv_st M 29 (mv_up (M 29) t a)) 28 (mv_up (M 28) 1 ((t + 1 : Nat) : Int))) 29 (mv_up (mv_up (M 29) t a) (t + 1) b)) 28 (mv_up (mv_up (M 28) 1 ((t + 1 : Nat) : Int)) 1 ((t + 2 : Nat) : Int))) 29 (mv_up (mv_up (mv_up (M 29) t a) (t + 1) b) (t + 2) c)) 28 (mv_up (mv_up (mv_up (M 28) 1 ((t + 1 : Nat) : Int)) 1 ((t + 2 : Nat) : Int)) 1 ((t + 3 : Nat) : Int))) 29 (mv_up (mv_up (mv_up (mv_up (M 29) t a) (t + 1) b) (t + 2) c) (t + 3) d)) 28 (mv_up (mv_up (mv_up (mv_up (M 28) 1 ((t + 1 : Nat) : Int)) 1 ((t + 2 : Nat) : Int)) 1 ((t + 3 : Nat) : Int)) 1 ((t + 4 : Nat) : Int))) 108 (mv_up (M 108) t a))) rfl ?_
              rw [show M 100 9 = (t : Int) from by exact htp.2.1]
              refine mv_goW 2 (pc' := 133) (ls' := [mv_R 100, mv_I 4, mv_I a, mv_I b, mv_I c, mv_I d, mv_I e, mv_I 0]) (st' := [mv_I (mv_w ((t : Int) + 1)), mv_R 100]) (M1 := (mv_st (mv_st (mv_st (mv_st (mv_st (mv_st (mv_st (mv_st (mv_st M 29 (mv_up (M 29) t a)) 28 (mv_up (M 28) 1 ((t + 1 : Nat) : Int))) 29 (mv_up (mv_up (M 29) t a) (t + 1) b)) 28 (mv_up (mv_up (M 28) 1 ((t + 1 : Nat) : Int)) 1 ((t + 2 : Nat) : Int))) 29 (mv_up (mv_up (mv_up (M 29) t a) (t + 1) b) (t + 2) c)) 28 (mv_up (mv_up (mv_up (M 28) 1 ((t + 1 : Nat) : Int)) 1 ((t + 2 : Nat) : Int)) 1 ((t + 3 : Nat) : Int))) 29 (mv_up (mv_up (mv_up (mv_up (M 29) t a) (t + 1) b) (t + 2) c) (t + 3) d)) 28 (mv_up (mv_up (mv_up (mv_up (M 28) 1 ((t + 1 : Nat) : Int)) 1 ((t + 2 : Nat) : Int)) 1 ((t + 3 : Nat) : Int)) 1 ((t + 4 : Nat) : Int))) 108 (mv_up (M 108) t a))) rfl ?_
              rw [show mv_w ((t : Int) + 1) = (t : Int) + 1 from mv_w_id (by omega) (by omega)]
              rw [show (t : Int) + 1 = ((t + 1 : Nat) : Int) from by omega]
              refine mv_goW 6 (pc' := if (mv_w (0 + 1)) < 4 then 74 else 142) (ls' := [mv_R 100, mv_I 4, mv_I a, mv_I b, mv_I c, mv_I d, mv_I e, mv_I (mv_w (0 + 1))]) (st' := []) (M1 := (mv_st (mv_st (mv_st (mv_st (mv_st (mv_st (mv_st (mv_st (mv_st (mv_st M 29 (mv_up (M 29) t a)) 28 (mv_up (M 28) 1 ((t + 1 : Nat) : Int))) 29 (mv_up (mv_up (M 29) t a) (t + 1) b)) 28 (mv_up (mv_up (M 28) 1 ((t + 1 : Nat) : Int)) 1 ((t + 2 : Nat) : Int))) 29 (mv_up (mv_up (mv_up (M 29) t a) (t + 1) b) (t + 2) c)) 28 (mv_up (mv_up (mv_up (M 28) 1 ((t + 1 : Nat) : Int)) 1 ((t + 2 : Nat) : Int)) 1 ((t + 3 : Nat) : Int))) 29 (mv_up (mv_up (mv_up (mv_up (M 29) t a) (t + 1) b) (t + 2) c) (t + 3) d)) 28 (mv_up (mv_up (mv_up (mv_up (M 28) 1 ((t + 1 : Nat) : Int)) 1 ((t + 2 : Nat) : Int)) 1 ((t + 3 : Nat) : Int)) 1 ((t + 4 : Nat) : Int))) 108 (mv_up (M 108) t a)) 100 (mv_up (M 100) 9 ((t + 1 : Nat) : Int)))) rfl ?_
              rw [show mv_w (0 + 1) = 0 + 1 from mv_w_id (by omega) (by omega)]
              refine mv_ttW (by decide) ?_
              refine mv_goW 6 (pc' := if (0 + 1) = 0 then 87 else 91) (ls' := [mv_R 100, mv_I 4, mv_I a, mv_I b, mv_I c, mv_I d, mv_I e, mv_I (0 + 1)]) (st' := [mv_I ((t + 1 : Nat) : Int), mv_R 108]) (M1 := (mv_st (mv_st (mv_st (mv_st (mv_st (mv_st (mv_st (mv_st (mv_st (mv_st M 29 (mv_up (M 29) t a)) 28 (mv_up (M 28) 1 ((t + 1 : Nat) : Int))) 29 (mv_up (mv_up (M 29) t a) (t + 1) b)) 28 (mv_up (mv_up (M 28) 1 ((t + 1 : Nat) : Int)) 1 ((t + 2 : Nat) : Int))) 29 (mv_up (mv_up (mv_up (M 29) t a) (t + 1) b) (t + 2) c)) 28 (mv_up (mv_up (mv_up (M 28) 1 ((t + 1 : Nat) : Int)) 1 ((t + 2 : Nat) : Int)) 1 ((t + 3 : Nat) : Int))) 29 (mv_up (mv_up (mv_up (mv_up (M 29) t a) (t + 1) b) (t + 2) c) (t + 3) d)) 28 (mv_up (mv_up (mv_up (mv_up (M 28) 1 ((t + 1 : Nat) : Int)) 1 ((t + 2 : Nat) : Int)) 1 ((t + 3 : Nat) : Int)) 1 ((t + 4 : Nat) : Int))) 108 (mv_up (M 108) t a)) 100 (mv_up (M 100) 9 ((t + 1 : Nat) : Int)))) rfl ?_
              refine mv_ffW (by decide) ?_
              refine mv_goW 3 (pc' := if (0 + 1) = 1 then 97 else 101) (ls' := [mv_R 100, mv_I 4, mv_I a, mv_I b, mv_I c, mv_I d, mv_I e, mv_I (0 + 1)]) (st' := [mv_I ((t + 1 : Nat) : Int), mv_R 108]) (M1 := (mv_st (mv_st (mv_st (mv_st (mv_st (mv_st (mv_st (mv_st (mv_st (mv_st M 29 (mv_up (M 29) t a)) 28 (mv_up (M 28) 1 ((t + 1 : Nat) : Int))) 29 (mv_up (mv_up (M 29) t a) (t + 1) b)) 28 (mv_up (mv_up (M 28) 1 ((t + 1 : Nat) : Int)) 1 ((t + 2 : Nat) : Int))) 29 (mv_up (mv_up (mv_up (M 29) t a) (t + 1) b) (t + 2) c)) 28 (mv_up (mv_up (mv_up (M 28) 1 ((t + 1 : Nat) : Int)) 1 ((t + 2 : Nat) : Int)) 1 ((t + 3 : Nat) : Int))) 29 (mv_up (mv_up (mv_up (mv_up (M 29) t a) (t + 1) b) (t + 2) c) (t + 3) d)) 28 (mv_up (mv_up (mv_up (mv_up (M 28) 1 ((t + 1 : Nat) : Int)) 1 ((t + 2 : Nat) : Int)) 1 ((t + 3 : Nat) : Int)) 1 ((t + 4 : Nat) : Int))) 108 (mv_up (M 108) t a)) 100 (mv_up (M 100) 9 ((t + 1 : Nat) : Int)))) rfl ?_
              refine mv_ttW (by decide) ?_
              refine mv_goW 3 (pc' := if 0 ≤ ((t + 1 : Nat) : Int) ∧ ((t + 1 : Nat) : Int) < 160 then 126 else mv_bad) (ls' := [mv_R 100, mv_I 4, mv_I a, mv_I b, mv_I c, mv_I d, mv_I e, mv_I (0 + 1)]) (st' := []) (M1 := (mv_st (mv_st (mv_st (mv_st (mv_st (mv_st (mv_st (mv_st (mv_st (mv_st (mv_st M 29 (mv_up (M 29) t a)) 28 (mv_up (M 28) 1 ((t + 1 : Nat) : Int))) 29 (mv_up (mv_up (M 29) t a) (t + 1) b)) 28 (mv_up (mv_up (M 28) 1 ((t + 1 : Nat) : Int)) 1 ((t + 2 : Nat) : Int))) 29 (mv_up (mv_up (mv_up (M 29) t a) (t + 1) b) (t + 2) c)) 28 (mv_up (mv_up (mv_up (M 28) 1 ((t + 1 : Nat) : Int)) 1 ((t + 2 : Nat) : Int)) 1 ((t + 3 : Nat) : Int))) 29 (mv_up (mv_up (mv_up (mv_up (M 29) t a) (t + 1) b) (t + 2) c) (t + 3) d)) 28 (mv_up (mv_up (mv_up (mv_up (M 28) 1 ((t + 1 : Nat) : Int)) 1 ((t + 2 : Nat) : Int)) 1 ((t + 3 : Nat) : Int)) 1 ((t + 4 : Nat) : Int))) 108 (mv_up (M 108) t a)) 100 (mv_up (M 100) 9 ((t + 1 : Nat) : Int))) 108 (mv_up (mv_up (M 108) t a) (t + 1) b))) rfl ?_
              refine mv_ttW (by omega) ?_
              refine mv_goW 5 (pc' := 133) (ls' := [mv_R 100, mv_I 4, mv_I a, mv_I b, mv_I c, mv_I d, mv_I e, mv_I (0 + 1)]) (st' := [mv_I (mv_w (((t + 1 : Nat) : Int) + 1)), mv_R 100]) (M1 := (mv_st (mv_st (mv_st (mv_st (mv_st (mv_st (mv_st (mv_st (mv_st (mv_st (mv_st M 29 (mv_up (M 29) t a)) 28 (mv_up (M 28) 1 ((t + 1 : Nat) : Int))) 29 (mv_up (mv_up (M 29) t a) (t + 1) b)) 28 (mv_up (mv_up (M 28) 1 ((t + 1 : Nat) : Int)) 1 ((t + 2 : Nat) : Int))) 29 (mv_up (mv_up (mv_up (M 29) t a) (t + 1) b) (t + 2) c)) 28 (mv_up (mv_up (mv_up (M 28) 1 ((t + 1 : Nat) : Int)) 1 ((t + 2 : Nat) : Int)) 1 ((t + 3 : Nat) : Int))) 29 (mv_up (mv_up (mv_up (mv_up (M 29) t a) (t + 1) b) (t + 2) c) (t + 3) d)) 28 (mv_up (mv_up (mv_up (mv_up (M 28) 1 ((t + 1 : Nat) : Int)) 1 ((t + 2 : Nat) : Int)) 1 ((t + 3 : Nat) : Int)) 1 ((t + 4 : Nat) : Int))) 108 (mv_up (M 108) t a)) 100 (mv_up (M 100) 9 ((t + 1 : Nat) : Int))) 108 (mv_up (mv_up (M 108) t a) (t + 1) b))) rfl ?_
              rw [show mv_w (((t + 1 : Nat) : Int) + 1) = ((t + 1 : Nat) : Int) + 1 from mv_w_id (by omega) (by omega)]
              rw [show ((t + 1 : Nat) : Int) + 1 = ((t + 2 : Nat) : Int) from by omega]
              refine mv_goW 6 (pc' := if (mv_w ((0 + 1) + 1)) < 4 then 74 else 142) (ls' := [mv_R 100, mv_I 4, mv_I a, mv_I b, mv_I c, mv_I d, mv_I e, mv_I (mv_w ((0 + 1) + 1))]) (st' := []) (M1 := (mv_st (mv_st (mv_st (mv_st (mv_st (mv_st (mv_st (mv_st (mv_st (mv_st (mv_st (mv_st M 29 (mv_up (M 29) t a)) 28 (mv_up (M 28) 1 ((t + 1 : Nat) : Int))) 29 (mv_up (mv_up (M 29) t a) (t + 1) b)) 28 (mv_up (mv_up (M 28) 1 ((t + 1 : Nat) : Int)) 1 ((t + 2 : Nat) : Int))) 29 (mv_up (mv_up (mv_up (M 29) t a) (t + 1) b) (t + 2) c)) 28 (mv_up (mv_up (mv_up (M 28) 1 ((t + 1 : Nat) : Int)) 1 ((t + 2 : Nat) : Int)) 1 ((t + 3 : Nat) : Int))) 29 (mv_up (mv_up (mv_up (mv_up (M 29) t a) (t + 1) b) (t + 2) c) (t + 3) d)) 28 (mv_up (mv_up (mv_up (mv_up (M 28) 1 ((t + 1 : Nat) : Int)) 1 ((t + 2 : Nat) : Int)) 1 ((t + 3 : Nat) : Int)) 1 ((t + 4 : Nat) : Int))) 108 (mv_up (M 108) t a)) 100 (mv_up (M 100) 9 ((t + 1 : Nat) : Int))) 108 (mv_up (mv_up (M 108) t a) (t + 1) b)) 100 (mv_up (mv_up (M 100) 9 ((t + 1 : Nat) : Int)) 9 ((t + 2 : Nat) : Int)))) rfl ?_
              rw [show mv_w ((0 + 1) + 1) = (0 + 1) + 1 from mv_w_id (by omega) (by omega)]
              refine mv_ttW (by decide) ?_
              refine mv_goW 6 (pc' := if ((0 + 1) + 1) = 0 then 87 else 91) (ls' := [mv_R 100, mv_I 4, mv_I a, mv_I b, mv_I c, mv_I d, mv_I e, mv_I ((0 + 1) + 1)]) (st' := [mv_I ((t + 2 : Nat) : Int), mv_R 108]) (M1 := (mv_st (mv_st (mv_st (mv_st (mv_st (mv_st (mv_st (mv_st (mv_st (mv_st (mv_st (mv_st M 29 (mv_up (M 29) t a)) 28 (mv_up (M 28) 1 ((t + 1 : Nat) : Int))) 29 (mv_up (mv_up (M 29) t a) (t + 1) b)) 28 (mv_up (mv_up (M 28) 1 ((t + 1 : Nat) : Int)) 1 ((t + 2 : Nat) : Int))) 29 (mv_up (mv_up (mv_up (M 29) t a) (t + 1) b) (t + 2) c)) 28 (mv_up (mv_up (mv_up (M 28) 1 ((t + 1 : Nat) : Int)) 1 ((t + 2 : Nat) : Int)) 1 ((t + 3 : Nat) : Int))) 29 (mv_up (mv_up (mv_up (mv_up (M 29) t a) (t + 1) b) (t + 2) c) (t + 3) d)) 28 (mv_up (mv_up (mv_up (mv_up (M 28) 1 ((t + 1 : Nat) : Int)) 1 ((t + 2 : Nat) : Int)) 1 ((t + 3 : Nat) : Int)) 1 ((t + 4 : Nat) : Int))) 108 (mv_up (M 108) t a)) 100 (mv_up (M 100) 9 ((t + 1 : Nat) : Int))) 108 (mv_up (mv_up (M 108) t a) (t + 1) b)) 100 (mv_up (mv_up (M 100) 9 ((t + 1 : Nat) : Int)) 9 ((t + 2 : Nat) : Int)))) rfl ?_
              refine mv_ffW (by decide) ?_
              refine mv_goW 3 (pc' := if ((0 + 1) + 1) = 1 then 97 else 101) (ls' := [mv_R 100, mv_I 4, mv_I a, mv_I b, mv_I c, mv_I d, mv_I e, mv_I ((0 + 1) + 1)]) (st' := [mv_I ((t + 2 : Nat) : Int), mv_R 108]) (M1 := (mv_st (mv_st (mv_st (mv_st (mv_st (mv_st (mv_st (mv_st (mv_st (mv_st (mv_st (mv_st M 29 (mv_up (M 29) t a)) 28 (mv_up (M 28) 1 ((t + 1 : Nat) : Int))) 29 (mv_up (mv_up (M 29) t a) (t + 1) b)) 28 (mv_up (mv_up (M 28) 1 ((t + 1 : Nat) : Int)) 1 ((t + 2 : Nat) : Int))) 29 (mv_up (mv_up (mv_up (M 29) t a) (t + 1) b) (t + 2) c)) 28 (mv_up (mv_up (mv_up (M 28) 1 ((t + 1 : Nat) : Int)) 1 ((t + 2 : Nat) : Int)) 1 ((t + 3 : Nat) : Int))) 29 (mv_up (mv_up (mv_up (mv_up (M 29) t a) (t + 1) b) (t + 2) c) (t + 3) d)) 28 (mv_up (mv_up (mv_up (mv_up (M 28) 1 ((t + 1 : Nat) : Int)) 1 ((t + 2 : Nat) : Int)) 1 ((t + 3 : Nat) : Int)) 1 ((t + 4 : Nat) : Int))) 108 (mv_up (M 108) t a)) 100 (mv_up (M 100) 9 ((t + 1 : Nat) : Int))) 108 (mv_up (mv_up (M 108) t a) (t + 1) b)) 100 (mv_up (mv_up (M 100) 9 ((t + 1 : Nat) : Int)) 9 ((t + 2 : Nat) : Int)))) rfl ?_
              refine mv_ffW (by decide) ?_
              refine mv_goW 3 (pc' := if ((0 + 1) + 1) = 2 then 107 else 112) (ls' := [mv_R 100, mv_I 4, mv_I a, mv_I b, mv_I c, mv_I d, mv_I e, mv_I ((0 + 1) + 1)]) (st' := [mv_I ((t + 2 : Nat) : Int), mv_R 108]) (M1 := (mv_st (mv_st (mv_st (mv_st (mv_st (mv_st (mv_st (mv_st (mv_st (mv_st (mv_st (mv_st M 29 (mv_up (M 29) t a)) 28 (mv_up (M 28) 1 ((t + 1 : Nat) : Int))) 29 (mv_up (mv_up (M 29) t a) (t + 1) b)) 28 (mv_up (mv_up (M 28) 1 ((t + 1 : Nat) : Int)) 1 ((t + 2 : Nat) : Int))) 29 (mv_up (mv_up (mv_up (M 29) t a) (t + 1) b) (t + 2) c)) 28 (mv_up (mv_up (mv_up (M 28) 1 ((t + 1 : Nat) : Int)) 1 ((t + 2 : Nat) : Int)) 1 ((t + 3 : Nat) : Int))) 29 (mv_up (mv_up (mv_up (mv_up (M 29) t a) (t + 1) b) (t + 2) c) (t + 3) d)) 28 (mv_up (mv_up (mv_up (mv_up (M 28) 1 ((t + 1 : Nat) : Int)) 1 ((t + 2 : Nat) : Int)) 1 ((t + 3 : Nat) : Int)) 1 ((t + 4 : Nat) : Int))) 108 (mv_up (M 108) t a)) 100 (mv_up (M 100) 9 ((t + 1 : Nat) : Int))) 108 (mv_up (mv_up (M 108) t a) (t + 1) b)) 100 (mv_up (mv_up (M 100) 9 ((t + 1 : Nat) : Int)) 9 ((t + 2 : Nat) : Int)))) rfl ?_
              refine mv_ttW (by decide) ?_
              refine mv_goW 3 (pc' := if 0 ≤ ((t + 2 : Nat) : Int) ∧ ((t + 2 : Nat) : Int) < 160 then 126 else mv_bad) (ls' := [mv_R 100, mv_I 4, mv_I a, mv_I b, mv_I c, mv_I d, mv_I e, mv_I ((0 + 1) + 1)]) (st' := []) (M1 := (mv_st (mv_st (mv_st (mv_st (mv_st (mv_st (mv_st (mv_st (mv_st (mv_st (mv_st (mv_st (mv_st M 29 (mv_up (M 29) t a)) 28 (mv_up (M 28) 1 ((t + 1 : Nat) : Int))) 29 (mv_up (mv_up (M 29) t a) (t + 1) b)) 28 (mv_up (mv_up (M 28) 1 ((t + 1 : Nat) : Int)) 1 ((t + 2 : Nat) : Int))) 29 (mv_up (mv_up (mv_up (M 29) t a) (t + 1) b) (t + 2) c)) 28 (mv_up (mv_up (mv_up (M 28) 1 ((t + 1 : Nat) : Int)) 1 ((t + 2 : Nat) : Int)) 1 ((t + 3 : Nat) : Int))) 29 (mv_up (mv_up (mv_up (mv_up (M 29) t a) (t + 1) b) (t + 2) c) (t + 3) d)) 28 (mv_up (mv_up (mv_up (mv_up (M 28) 1 ((t + 1 : Nat) : Int)) 1 ((t + 2 : Nat) : Int)) 1 ((t + 3 : Nat) : Int)) 1 ((t + 4 : Nat) : Int))) 108 (mv_up (M 108) t a)) 100 (mv_up (M 100) 9 ((t + 1 : Nat) : Int))) 108 (mv_up (mv_up (M 108) t a) (t + 1) b)) 100 (mv_up (mv_up (M 100) 9 ((t + 1 : Nat) : Int)) 9 ((t + 2 : Nat) : Int))) 108 (mv_up (mv_up (mv_up (M 108) t a) (t + 1) b) (t + 2) c))) rfl ?_
              refine mv_ttW (by omega) ?_
              refine mv_goW 5 (pc' := 133) (ls' := [mv_R 100, mv_I 4, mv_I a, mv_I b, mv_I c, mv_I d, mv_I e, mv_I ((0 + 1) + 1)]) (st' := [mv_I (mv_w (((t + 2 : Nat) : Int) + 1)), mv_R 100]) (M1 := (mv_st (mv_st (mv_st (mv_st (mv_st (mv_st (mv_st (mv_st (mv_st (mv_st (mv_st (mv_st (mv_st M 29 (mv_up (M 29) t a)) 28 (mv_up (M 28) 1 ((t + 1 : Nat) : Int))) 29 (mv_up (mv_up (M 29) t a) (t + 1) b)) 28 (mv_up (mv_up (M 28) 1 ((t + 1 : Nat) : Int)) 1 ((t + 2 : Nat) : Int))) 29 (mv_up (mv_up (mv_up (M 29) t a) (t + 1) b) (t + 2) c)) 28 (mv_up (mv_up (mv_up (M 28) 1 ((t + 1 : Nat) : Int)) 1 ((t + 2 : Nat) : Int)) 1 ((t + 3 : Nat) : Int))) 29 (mv_up (mv_up (mv_up (mv_up (M 29) t a) (t + 1) b) (t + 2) c) (t + 3) d)) 28 (mv_up (mv_up (mv_up (mv_up (M 28) 1 ((t + 1 : Nat) : Int)) 1 ((t + 2 : Nat) : Int)) 1 ((t + 3 : Nat) : Int)) 1 ((t + 4 : Nat) : Int))) 108 (mv_up (M 108) t a)) 100 (mv_up (M 100) 9 ((t + 1 : Nat) : Int))) 108 (mv_up (mv_up (M 108) t a) (t + 1) b)) 100 (mv_up (mv_up (M 100) 9 ((t + 1 : Nat) : Int)) 9 ((t + 2 : Nat) : Int))) 108 (mv_up (mv_up (mv_up (M 108) t a) (t + 1) b) (t + 2) c))) rfl ?_
              rw [show mv_w (((t + 2 : Nat) : Int) + 1) = ((t + 2 : Nat) : Int) + 1 from mv_w_id (by omega) (by omega)]
              rw [show ((t + 2 : Nat) : Int) + 1 = ((t + 3 : Nat) : Int) from by omega]
              refine mv_goW 6 (pc' := if (mv_w (((0 + 1) + 1) + 1)) < 4 then 74 else 142) (ls' := [mv_R 100, mv_I 4, mv_I a, mv_I b, mv_I c, mv_I d, mv_I e, mv_I (mv_w (((0 + 1) + 1) + 1))]) (st' := []) (M1 := (mv_st (mv_st (mv_st (mv_st (mv_st (mv_st (mv_st (mv_st (mv_st (mv_st (mv_st (mv_st (mv_st (mv_st M 29 (mv_up (M 29) t a)) 28 (mv_up (M 28) 1 ((t + 1 : Nat) : Int))) 29 (mv_up (mv_up (M 29) t a) (t + 1) b)) 28 (mv_up (mv_up (M 28) 1 ((t + 1 : Nat) : Int)) 1 ((t + 2 : Nat) : Int))) 29 (mv_up (mv_up (mv_up (M 29) t a) (t + 1) b) (t + 2) c)) 28 (mv_up (mv_up (mv_up (M 28) 1 ((t + 1 : Nat) : Int)) 1 ((t + 2 : Nat) : Int)) 1 ((t + 3 : Nat) : Int))) 29 (mv_up (mv_up (mv_up (mv_up (M 29) t a) (t + 1) b) (t + 2) c) (t + 3) d)) 28 (mv_up (mv_up (mv_up (mv_up (M 28) 1 ((t + 1 : Nat) : Int)) 1 ((t + 2 : Nat) : Int)) 1 ((t + 3 : Nat) : Int)) 1 ((t + 4 : Nat) : Int))) 108 (mv_up (M 108) t a)) 100 (mv_up (M 100) 9 ((t + 1 : Nat) : Int))) 108 (mv_up (mv_up (M 108) t a) (t + 1) b)) 100 (mv_up (mv_up (M 100) 9 ((t + 1 : Nat) : Int)) 9 ((t + 2 : Nat) : Int))) 108 (mv_up (mv_up (mv_up (M 108) t a) (t + 1) b) (t + 2) c)) 100 (mv_up (mv_up (mv_up (M 100) 9 ((t + 1 : Nat) : Int)) 9 ((t + 2 : Nat) : Int)) 9 ((t + 3 : Nat) : Int)))) rfl ?_
              rw [show mv_w (((0 + 1) + 1) + 1) = ((0 + 1) + 1) + 1 from mv_w_id (by omega) (by omega)]
              refine mv_ttW (by decide) ?_
              refine mv_goW 6 (pc' := if (((0 + 1) + 1) + 1) = 0 then 87 else 91) (ls' := [mv_R 100, mv_I 4, mv_I a, mv_I b, mv_I c, mv_I d, mv_I e, mv_I (((0 + 1) + 1) + 1)]) (st' := [mv_I ((t + 3 : Nat) : Int), mv_R 108]) (M1 := (mv_st (mv_st (mv_st (mv_st (mv_st (mv_st (mv_st (mv_st (mv_st (mv_st (mv_st (mv_st (mv_st (mv_st M 29 (mv_up (M 29) t a)) 28 (mv_up (M 28) 1 ((t + 1 : Nat) : Int))) 29 (mv_up (mv_up (M 29) t a) (t + 1) b)) 28 (mv_up (mv_up (M 28) 1 ((t + 1 : Nat) : Int)) 1 ((t + 2 : Nat) : Int))) 29 (mv_up (mv_up (mv_up (M 29) t a) (t + 1) b) (t + 2) c)) 28 (mv_up (mv_up (mv_up (M 28) 1 ((t + 1 : Nat) : Int)) 1 ((t + 2 : Nat) : Int)) 1 ((t + 3 : Nat) : Int))) 29 (mv_up (mv_up (mv_up (mv_up (M 29) t a) (t + 1) b) (t + 2) c) (t + 3) d)) 28 (mv_up (mv_up (mv_up (mv_up (M 28) 1 ((t + 1 : Nat) : Int)) 1 ((t + 2 : Nat) : Int)) 1 ((t + 3 : Nat) : Int)) 1 ((t + 4 : Nat) : Int))) 108 (mv_up (M 108) t a)) 100 (mv_up (M 100) 9 ((t + 1 : Nat) : Int))) 108 (mv_up (mv_up (M 108) t a) (t + 1) b)) 100 (mv_up (mv_up (M 100) 9 ((t + 1 : Nat) : Int)) 9 ((t + 2 : Nat) : Int))) 108 (mv_up (mv_up (mv_up (M 108) t a) (t + 1) b) (t + 2) c)) 100 (mv_up (mv_up (mv_up (M 100) 9 ((t + 1 : Nat) : Int)) 9 ((t + 2 : Nat) : Int)) 9 ((t + 3 : Nat) : Int)))) rfl ?_
              refine mv_ffW (by decide) ?_
              refine mv_goW 3 (pc' := if (((0 + 1) + 1) + 1) = 1 then 97 else 101) (ls' := [mv_R 100, mv_I 4, mv_I a, mv_I b, mv_I c, mv_I d, mv_I e, mv_I (((0 + 1) + 1) + 1)]) (st' := [mv_I ((t + 3 : Nat) : Int), mv_R 108]) (M1 := (mv_st (mv_st (mv_st (mv_st (mv_st (mv_st (mv_st (mv_st (mv_st (mv_st (mv_st (mv_st (mv_st (mv_st M 29 (mv_up (M 29) t a)) 28 (mv_up (M 28) 1 ((t + 1 : Nat) : Int))) 29 (mv_up (mv_up (M 29) t a) (t + 1) b)) 28 (mv_up (mv_up (M 28) 1 ((t + 1 : Nat) : Int)) 1 ((t + 2 : Nat) : Int))) 29 (mv_up (mv_up (mv_up (M 29) t a) (t + 1) b) (t + 2) c)) 28 (mv_up (mv_up (mv_up (M 28) 1 ((t + 1 : Nat) : Int)) 1 ((t + 2 : Nat) : Int)) 1 ((t + 3 : Nat) : Int))) 29 (mv_up (mv_up (mv_up (mv_up (M 29) t a) (t + 1) b) (t + 2) c) (t + 3) d)) 28 (mv_up (mv_up (mv_up (mv_up (M 28) 1 ((t + 1 : Nat) : Int)) 1 ((t + 2 : Nat) : Int)) 1 ((t + 3 : Nat) : Int)) 1 ((t + 4 : Nat) : Int))) 108 (mv_up (M 108) t a)) 100 (mv_up (M 100) 9 ((t + 1 : Nat) : Int))) 108 (mv_up (mv_up (M 108) t a) (t + 1) b)) 100 (mv_up (mv_up (M 100) 9 ((t + 1 : Nat) : Int)) 9 ((t + 2 : Nat) : Int))) 108 (mv_up (mv_up (mv_up (M 108) t a) (t + 1) b) (t + 2) c)) 100 (mv_up (mv_up (mv_up (M 100) 9 ((t + 1 : Nat) : Int)) 9 ((t + 2 : Nat) : Int)) 9 ((t + 3 : Nat) : Int)))) rfl ?_
              refine mv_ffW (by decide) ?_
              refine mv_goW 3 (pc' := if (((0 + 1) + 1) + 1) = 2 then 107 else 112) (ls' := [mv_R 100, mv_I 4, mv_I a, mv_I b, mv_I c, mv_I d, mv_I e, mv_I (((0 + 1) + 1) + 1)]) (st' := [mv_I ((t + 3 : Nat) : Int), mv_R 108]) (M1 := (mv_st (mv_st (mv_st (mv_st (mv_st (mv_st (mv_st (mv_st (mv_st (mv_st (mv_st (mv_st (mv_st (mv_st M 29 (mv_up (M 29) t a)) 28 (mv_up (M 28) 1 ((t + 1 : Nat) : Int))) 29 (mv_up (mv_up (M 29) t a) (t + 1) b)) 28 (mv_up (mv_up (M 28) 1 ((t + 1 : Nat) : Int)) 1 ((t + 2 : Nat) : Int))) 29 (mv_up (mv_up (mv_up (M 29) t a) (t + 1) b) (t + 2) c)) 28 (mv_up (mv_up (mv_up (M 28) 1 ((t + 1 : Nat) : Int)) 1 ((t + 2 : Nat) : Int)) 1 ((t + 3 : Nat) : Int))) 29 (mv_up (mv_up (mv_up (mv_up (M 29) t a) (t + 1) b) (t + 2) c) (t + 3) d)) 28 (mv_up (mv_up (mv_up (mv_up (M 28) 1 ((t + 1 : Nat) : Int)) 1 ((t + 2 : Nat) : Int)) 1 ((t + 3 : Nat) : Int)) 1 ((t + 4 : Nat) : Int))) 108 (mv_up (M 108) t a)) 100 (mv_up (M 100) 9 ((t + 1 : Nat) : Int))) 108 (mv_up (mv_up (M 108) t a) (t + 1) b)) 100 (mv_up (mv_up (M 100) 9 ((t + 1 : Nat) : Int)) 9 ((t + 2 : Nat) : Int))) 108 (mv_up (mv_up (mv_up (M 108) t a) (t + 1) b) (t + 2) c)) 100 (mv_up (mv_up (mv_up (M 100) 9 ((t + 1 : Nat) : Int)) 9 ((t + 2 : Nat) : Int)) 9 ((t + 3 : Nat) : Int)))) rfl ?_
              refine mv_ffW (by decide) ?_
              refine mv_goW 3 (pc' := if (((0 + 1) + 1) + 1) = 3 then 118 else 123) (ls' := [mv_R 100, mv_I 4, mv_I a, mv_I b, mv_I c, mv_I d, mv_I e, mv_I (((0 + 1) + 1) + 1)]) (st' := [mv_I ((t + 3 : Nat) : Int), mv_R 108]) (M1 := (mv_st (mv_st (mv_st (mv_st (mv_st (mv_st (mv_st (mv_st (mv_st (mv_st (mv_st (mv_st (mv_st (mv_st M 29 (mv_up (M 29) t a)) 28 (mv_up (M 28) 1 ((t + 1 : Nat) : Int))) 29 (mv_up (mv_up (M 29) t a) (t + 1) b)) 28 (mv_up (mv_up (M 28) 1 ((t + 1 : Nat) : Int)) 1 ((t + 2 : Nat) : Int))) 29 (mv_up (mv_up (mv_up (M 29) t a) (t + 1) b) (t + 2) c)) 28 (mv_up (mv_up (mv_up (M 28) 1 ((t + 1 : Nat) : Int)) 1 ((t + 2 : Nat) : Int)) 1 ((t + 3 : Nat) : Int))) 29 (mv_up (mv_up (mv_up (mv_up (M 29) t a) (t + 1) b) (t + 2) c) (t + 3) d)) 28 (mv_up (mv_up (mv_up (mv_up (M 28) 1 ((t + 1 : Nat) : Int)) 1 ((t + 2 : Nat) : Int)) 1 ((t + 3 : Nat) : Int)) 1 ((t + 4 : Nat) : Int))) 108 (mv_up (M 108) t a)) 100 (mv_up (M 100) 9 ((t + 1 : Nat) : Int))) 108 (mv_up (mv_up (M 108) t a) (t + 1) b)) 100 (mv_up (mv_up (M 100) 9 ((t + 1 : Nat) : Int)) 9 ((t + 2 : Nat) : Int))) 108 (mv_up (mv_up (mv_up (M 108) t a) (t + 1) b) (t + 2) c)) 100 (mv_up (mv_up (mv_up (M 100) 9 ((t + 1 : Nat) : Int)) 9 ((t + 2 : Nat) : Int)) 9 ((t + 3 : Nat) : Int)))) rfl ?_
              refine mv_ttW (by decide) ?_
              refine mv_goW 3 (pc' := if 0 ≤ ((t + 3 : Nat) : Int) ∧ ((t + 3 : Nat) : Int) < 160 then 126 else mv_bad) (ls' := [mv_R 100, mv_I 4, mv_I a, mv_I b, mv_I c, mv_I d, mv_I e, mv_I (((0 + 1) + 1) + 1)]) (st' := []) (M1 := (mv_st (mv_st (mv_st (mv_st (mv_st (mv_st (mv_st (mv_st (mv_st (mv_st (mv_st (mv_st (mv_st (mv_st (mv_st M 29 (mv_up (M 29) t a)) 28 (mv_up (M 28) 1 ((t + 1 : Nat) : Int))) 29 (mv_up (mv_up (M 29) t a) (t + 1) b)) 28 (mv_up (mv_up (M 28) 1 ((t + 1 : Nat) : Int)) 1 ((t + 2 : Nat) : Int))) 29 (mv_up (mv_up (mv_up (M 29) t a) (t + 1) b) (t + 2) c)) 28 (mv_up (mv_up (mv_up (M 28) 1 ((t + 1 : Nat) : Int)) 1 ((t + 2 : Nat) : Int)) 1 ((t + 3 : Nat) : Int))) 29 (mv_up (mv_up (mv_up (mv_up (M 29) t a) (t + 1) b) (t + 2) c) (t + 3) d)) 28 (mv_up (mv_up (mv_up (mv_up (M 28) 1 ((t + 1 : Nat) : Int)) 1 ((t + 2 : Nat) : Int)) 1 ((t + 3 : Nat) : Int)) 1 ((t + 4 : Nat) : Int))) 108 (mv_up (M 108) t a)) 100 (mv_up (M 100) 9 ((t + 1 : Nat) : Int))) 108 (mv_up (mv_up (M 108) t a) (t + 1) b)) 100 (mv_up (mv_up (M 100) 9 ((t + 1 : Nat) : Int)) 9 ((t + 2 : Nat) : Int))) 108 (mv_up (mv_up (mv_up (M 108) t a) (t + 1) b) (t + 2) c)) 100 (mv_up (mv_up (mv_up (M 100) 9 ((t + 1 : Nat) : Int)) 9 ((t + 2 : Nat) : Int)) 9 ((t + 3 : Nat) : Int))) 108 (mv_up (mv_up (mv_up (mv_up (M 108) t a) (t + 1) b) (t + 2) c) (t + 3) d))) rfl ?_
              refine mv_ttW (by omega) ?_
              refine mv_goW 5 (pc' := 133) (ls' := [mv_R 100, mv_I 4, mv_I a, mv_I b, mv_I c, mv_I d, mv_I e, mv_I (((0 + 1) + 1) + 1)]) (st' := [mv_I (mv_w (((t + 3 : Nat) : Int) + 1)), mv_R 100]) (M1 := (mv_st (mv_st (mv_st (mv_st (mv_st (mv_st (mv_st (mv_st (mv_st (mv_st (mv_st (mv_st (mv_st (mv_st (mv_st M 29 (mv_up (M 29) t a)) 28 (mv_up (M 28) 1 ((t + 1 : Nat) : Int))) 29 (mv_up (mv_up (M 29) t a) (t + 1) b)) 28 (mv_up (mv_up (M 28) 1 ((t + 1 : Nat) : Int)) 1 ((t + 2 : Nat) : Int))) 29 (mv_up (mv_up (mv_up (M 29) t a) (t + 1) b) (t + 2) c)) 28 (mv_up (mv_up (mv_up (M 28) 1 ((t + 1 : Nat) : Int)) 1 ((t + 2 : Nat) : Int)) 1 ((t + 3 : Nat) : Int))) 29 (mv_up (mv_up (mv_up (mv_up (M 29) t a) (t + 1) b) (t + 2) c) (t + 3) d)) 28 (mv_up (mv_up (mv_up (mv_up (M 28) 1 ((t + 1 : Nat) : Int)) 1 ((t + 2 : Nat) : Int)) 1 ((t + 3 : Nat) : Int)) 1 ((t + 4 : Nat) : Int))) 108 (mv_up (M 108) t a)) 100 (mv_up (M 100) 9 ((t + 1 : Nat) : Int))) 108 (mv_up (mv_up (M 108) t a) (t + 1) b)) 100 (mv_up (mv_up (M 100) 9 ((t + 1 : Nat) : Int)) 9 ((t + 2 : Nat) : Int))) 108 (mv_up (mv_up (mv_up (M 108) t a) (t + 1) b) (t + 2) c)) 100 (mv_up (mv_up (mv_up (M 100) 9 ((t + 1 : Nat) : Int)) 9 ((t + 2 : Nat) : Int)) 9 ((t + 3 : Nat) : Int))) 108 (mv_up (mv_up (mv_up (mv_up (M 108) t a) (t + 1) b) (t + 2) c) (t + 3) d))) rfl ?_
              rw [show mv_w (((t + 3 : Nat) : Int) + 1) = ((t + 3 : Nat) : Int) + 1 from mv_w_id (by omega) (by omega)]
              rw [show ((t + 3 : Nat) : Int) + 1 = ((t + 4 : Nat) : Int) from by omega]
              refine mv_goW 6 (pc' := if (mv_w ((((0 + 1) + 1) + 1) + 1)) < 4 then 74 else 142) (ls' := [mv_R 100, mv_I 4, mv_I a, mv_I b, mv_I c, mv_I d, mv_I e, mv_I (mv_w ((((0 + 1) + 1) + 1) + 1))]) (st' := []) (M1 := (mv_st (mv_st (mv_st (mv_st (mv_st (mv_st (mv_st (mv_st (mv_st (mv_st (mv_st (mv_st (mv_st (mv_st (mv_st (mv_st M 29 (mv_up (M 29) t a)) 28 (mv_up (M 28) 1 ((t + 1 : Nat) : Int))) 29 (mv_up (mv_up (M 29) t a) (t + 1) b)) 28 (mv_up (mv_up (M 28) 1 ((t + 1 : Nat) : Int)) 1 ((t + 2 : Nat) : Int))) 29 (mv_up (mv_up (mv_up (M 29) t a) (t + 1) b) (t + 2) c)) 28 (mv_up (mv_up (mv_up (M 28) 1 ((t + 1 : Nat) : Int)) 1 ((t + 2 : Nat) : Int)) 1 ((t + 3 : Nat) : Int))) 29 (mv_up (mv_up (mv_up (mv_up (M 29) t a) (t + 1) b) (t + 2) c) (t + 3) d)) 28 (mv_up (mv_up (mv_up (mv_up (M 28) 1 ((t + 1 : Nat) : Int)) 1 ((t + 2 : Nat) : Int)) 1 ((t + 3 : Nat) : Int)) 1 ((t + 4 : Nat) : Int))) 108 (mv_up (M 108) t a)) 100 (mv_up (M 100) 9 ((t + 1 : Nat) : Int))) 108 (mv_up (mv_up (M 108) t a) (t + 1) b)) 100 (mv_up (mv_up (M 100) 9 ((t + 1 : Nat) : Int)) 9 ((t + 2 : Nat) : Int))) 108 (mv_up (mv_up (mv_up (M 108) t a) (t + 1) b) (t + 2) c)) 100 (mv_up (mv_up (mv_up (M 100) 9 ((t + 1 : Nat) : Int)) 9 ((t + 2 : Nat) : Int)) 9 ((t + 3 : Nat) : Int))) 108 (mv_up (mv_up (mv_up (mv_up (M 108) t a) (t + 1) b) (t + 2) c) (t + 3) d)) 100 (mv_up (mv_up (mv_up (mv_up (M 100) 9 ((t + 1 : Nat) : Int)) 9 ((t + 2 : Nat) : Int)) 9 ((t + 3 : Nat) : Int)) 9 ((t + 4 : Nat) : Int)))) rfl ?_
              rw [show mv_w ((((0 + 1) + 1) + 1) + 1) = (((0 + 1) + 1) + 1) + 1 from mv_w_id (by omega) (by omega)]
              refine mv_ffW (by decide) ?_
              refine mv_goW 2 (pc' := 146) (ls' := [mv_R 100, mv_I 4, mv_I a, mv_I b, mv_I c, mv_I d, mv_I e, mv_I ((((0 + 1) + 1) + 1) + 1)]) (st' := [mv_I ((t + 4 : Nat) : Int)]) (M1 := (mv_st (mv_st (mv_st (mv_st (mv_st (mv_st (mv_st (mv_st (mv_st (mv_st (mv_st (mv_st (mv_st (mv_st (mv_st (mv_st M 29 (mv_up (M 29) t a)) 28 (mv_up (M 28) 1 ((t + 1 : Nat) : Int))) 29 (mv_up (mv_up (M 29) t a) (t + 1) b)) 28 (mv_up (mv_up (M 28) 1 ((t + 1 : Nat) : Int)) 1 ((t + 2 : Nat) : Int))) 29 (mv_up (mv_up (mv_up (M 29) t a) (t + 1) b) (t + 2) c)) 28 (mv_up (mv_up (mv_up (M 28) 1 ((t + 1 : Nat) : Int)) 1 ((t + 2 : Nat) : Int)) 1 ((t + 3 : Nat) : Int))) 29 (mv_up (mv_up (mv_up (mv_up (M 29) t a) (t + 1) b) (t + 2) c) (t + 3) d)) 28 (mv_up (mv_up (mv_up (mv_up (M 28) 1 ((t + 1 : Nat) : Int)) 1 ((t + 2 : Nat) : Int)) 1 ((t + 3 : Nat) : Int)) 1 ((t + 4 : Nat) : Int))) 108 (mv_up (M 108) t a)) 100 (mv_up (M 100) 9 ((t + 1 : Nat) : Int))) 108 (mv_up (mv_up (M 108) t a) (t + 1) b)) 100 (mv_up (mv_up (M 100) 9 ((t + 1 : Nat) : Int)) 9 ((t + 2 : Nat) : Int))) 108 (mv_up (mv_up (mv_up (M 108) t a) (t + 1) b) (t + 2) c)) 100 (mv_up (mv_up (mv_up (M 100) 9 ((t + 1 : Nat) : Int)) 9 ((t + 2 : Nat) : Int)) 9 ((t + 3 : Nat) : Int))) 108 (mv_up (mv_up (mv_up (mv_up (M 108) t a) (t + 1) b) (t + 2) c) (t + 3) d)) 100 (mv_up (mv_up (mv_up (mv_up (M 100) 9 ((t + 1 : Nat) : Int)) 9 ((t + 2 : Nat) : Int)) 9 ((t + 3 : Nat) : Int)) 9 ((t + 4 : Nat) : Int)))) rfl ?_
              exact mv_retW (fun n => rfl) ⟨congrArg mv_I (by first | with_reducible rfl | omega), sp_fd_end (t2 := t + 4) h (fun i q1 q2 q3 q4 => by simp only [mv_st_n _ _ q1, mv_st_n _ _ q2, mv_st_n _ _ q3, mv_st_n _ _ q4]) rfl rfl (by omega) ⟨rfl, rfl, rfl, rfl, rfl, rfl⟩ (show ∀ j, j < t + 4 → mv_up (mv_up (mv_up (mv_up (M 29) t a) (t + 1) b) (t + 2) c) (t + 3) d j = mv_up (mv_up (mv_up (mv_up (M 108) t a) (t + 1) b) (t + 2) c) (t + 3) d j ∧ 0 ≤ mv_up (mv_up (mv_up (mv_up (M 29) t a) (t + 1) b) (t + 2) c) (t + 3) d j ∧ mv_up (mv_up (mv_up (mv_up (M 29) t a) (t + 1) b) (t + 2) c) (t + 3) d j ≤ 255 from sp_ub (sp_ub (sp_ub (sp_ub (htp.2.2.2) (by omega)) (by omega)) (by omega)) (by omega))⟩
          · refine mv_callPW (st2 := [mv_I 0]) rfl (Or.inr rfl) rfl rfl rfl (sp_cby_f ha137) (by first | decide | omega) ?_
            refine mv_goW 1 (pc' := if 0 = 0 then 48 else 51) (ls' := [mv_R 0, mv_I 4, mv_I a, mv_I b, mv_I c, mv_I d, mv_I e, mv_U]) (st' := []) (M1 := M) rfl ?_
            refine mv_ttW (by decide) ?_
            refine mv_goW 1 (pc' := 50) (ls' := [mv_R 0, mv_I 4, mv_I a, mv_I b, mv_I c, mv_I d, mv_I e, mv_U]) (st' := [mv_I (-2)]) (M1 := M) rfl ?_
            refine mv_retW (fun n => rfl) ⟨_, rfl, ?_⟩
            refine mv_goW 3 (pc' := 3) (ls' := [mv_R 100, mv_I 4, mv_I a, mv_I b, mv_I c, mv_I d, mv_I e, mv_U]) (st' := [mv_I 5, mv_I 1, mv_I 4]) (M1 := M) rfl ?_
            have ha159 : (1 : Int) ≤ (4 : Int) ∧ (4 : Int) ≤ (5 : Int) := by omega
            refine mv_callPW (st2 := [mv_I 1]) rfl (Or.inr rfl) rfl rfl rfl (sp_min_t ha159) (by first | decide | omega) ?_
            refine mv_goW 1 (pc' := if 1 = 0 then 47 else 9) (ls' := [mv_R 100, mv_I 4, mv_I a, mv_I b, mv_I c, mv_I d, mv_I e, mv_U]) (st' := []) (M1 := M) rfl ?_
            refine mv_ffW (by decide) ?_
            refine mv_goW 1 (pc' := 10) (ls' := [mv_R 100, mv_I 4, mv_I a, mv_I b, mv_I c, mv_I d, mv_I e, mv_U]) (st' := [mv_I a]) (M1 := M) rfl ?_
            have ha160 : 0 ≤ a ∧ a ≤ 255 := by omega
            refine mv_callPW (st2 := [mv_I 1]) rfl (Or.inr rfl) rfl rfl rfl (sp_mby_t ha160) (by first | decide | omega) ?_
            refine mv_goW 1 (pc' := if 1 = 0 then 47 else 16) (ls' := [mv_R 100, mv_I 4, mv_I a, mv_I b, mv_I c, mv_I d, mv_I e, mv_U]) (st' := []) (M1 := M) rfl ?_
            refine mv_ffW (by decide) ?_
            refine mv_goW 1 (pc' := 17) (ls' := [mv_R 100, mv_I 4, mv_I a, mv_I b, mv_I c, mv_I d, mv_I e, mv_U]) (st' := [mv_I b]) (M1 := M) rfl ?_
            have ha161 : 0 ≤ b ∧ b ≤ 255 := by omega
            refine mv_callPW (st2 := [mv_I 1]) rfl (Or.inr rfl) rfl rfl rfl (sp_mby_t ha161) (by first | decide | omega) ?_
            refine mv_goW 1 (pc' := if 1 = 0 then 47 else 23) (ls' := [mv_R 100, mv_I 4, mv_I a, mv_I b, mv_I c, mv_I d, mv_I e, mv_U]) (st' := []) (M1 := M) rfl ?_
            refine mv_ffW (by decide) ?_
            refine mv_goW 1 (pc' := 25) (ls' := [mv_R 100, mv_I 4, mv_I a, mv_I b, mv_I c, mv_I d, mv_I e, mv_U]) (st' := [mv_I c]) (M1 := M) rfl ?_
            have ha162 : 0 ≤ c ∧ c ≤ 255 := by omega
            refine mv_callPW (st2 := [mv_I 1]) rfl (Or.inr rfl) rfl rfl rfl (sp_mby_t ha162) (by first | decide | omega) ?_
            refine mv_goW 1 (pc' := if 1 = 0 then 47 else 31) (ls' := [mv_R 100, mv_I 4, mv_I a, mv_I b, mv_I c, mv_I d, mv_I e, mv_U]) (st' := []) (M1 := M) rfl ?_
            refine mv_ffW (by decide) ?_
            refine mv_goW 1 (pc' := 33) (ls' := [mv_R 100, mv_I 4, mv_I a, mv_I b, mv_I c, mv_I d, mv_I e, mv_U]) (st' := [mv_I d]) (M1 := M) rfl ?_
            have ha163 : 0 ≤ d ∧ d ≤ 255 := by omega
            refine mv_callPW (st2 := [mv_I 1]) rfl (Or.inr rfl) rfl rfl rfl (sp_mby_t ha163) (by first | decide | omega) ?_
            refine mv_goW 1 (pc' := if 1 = 0 then 47 else 39) (ls' := [mv_R 100, mv_I 4, mv_I a, mv_I b, mv_I c, mv_I d, mv_I e, mv_U]) (st' := []) (M1 := M) rfl ?_
            refine mv_ffW (by decide) ?_
            refine mv_goW 1 (pc' := 41) (ls' := [mv_R 100, mv_I 4, mv_I a, mv_I b, mv_I c, mv_I d, mv_I e, mv_U]) (st' := [mv_I e]) (M1 := M) rfl ?_
            have ha164 : ¬ (0 ≤ e ∧ e ≤ 255) := by omega
            refine mv_callPW (st2 := [mv_I 0]) rfl (Or.inr rfl) rfl rfl rfl (sp_mby_f ha164) (by first | decide | omega) ?_
            refine mv_goW 1 (pc' := if 0 = 0 then 47 else 50) (ls' := [mv_R 100, mv_I 4, mv_I a, mv_I b, mv_I c, mv_I d, mv_I e, mv_U]) (st' := []) (M1 := M) rfl ?_
            refine mv_ttW (by decide) ?_
            refine mv_goW 1 (pc' := 49) (ls' := [mv_R 100, mv_I 4, mv_I a, mv_I b, mv_I c, mv_I d, mv_I e, mv_U]) (st' := [mv_I (-2)]) (M1 := M) rfl ?_
            exact mv_retW (fun n => rfl) ⟨congrArg mv_I (by first | with_reducible rfl | omega), hI⟩
        · refine mv_callPW (st2 := [mv_I 0]) rfl (Or.inr rfl) rfl rfl rfl (sp_cby_f ha136) (by first | decide | omega) ?_
          refine mv_goW 1 (pc' := if 0 = 0 then 48 else 40) (ls' := [mv_R 0, mv_I 4, mv_I a, mv_I b, mv_I c, mv_I d, mv_I e, mv_U]) (st' := []) (M1 := M) rfl ?_
          refine mv_ttW (by decide) ?_
          refine mv_goW 1 (pc' := 50) (ls' := [mv_R 0, mv_I 4, mv_I a, mv_I b, mv_I c, mv_I d, mv_I e, mv_U]) (st' := [mv_I (-2)]) (M1 := M) rfl ?_
          refine mv_retW (fun n => rfl) ⟨_, rfl, ?_⟩
          refine mv_goW 3 (pc' := 3) (ls' := [mv_R 100, mv_I 4, mv_I a, mv_I b, mv_I c, mv_I d, mv_I e, mv_U]) (st' := [mv_I 5, mv_I 1, mv_I 4]) (M1 := M) rfl ?_
          have ha165 : (1 : Int) ≤ (4 : Int) ∧ (4 : Int) ≤ (5 : Int) := by omega
          refine mv_callPW (st2 := [mv_I 1]) rfl (Or.inr rfl) rfl rfl rfl (sp_min_t ha165) (by first | decide | omega) ?_
          refine mv_goW 1 (pc' := if 1 = 0 then 47 else 9) (ls' := [mv_R 100, mv_I 4, mv_I a, mv_I b, mv_I c, mv_I d, mv_I e, mv_U]) (st' := []) (M1 := M) rfl ?_
          refine mv_ffW (by decide) ?_
          refine mv_goW 1 (pc' := 10) (ls' := [mv_R 100, mv_I 4, mv_I a, mv_I b, mv_I c, mv_I d, mv_I e, mv_U]) (st' := [mv_I a]) (M1 := M) rfl ?_
          have ha166 : 0 ≤ a ∧ a ≤ 255 := by omega
          refine mv_callPW (st2 := [mv_I 1]) rfl (Or.inr rfl) rfl rfl rfl (sp_mby_t ha166) (by first | decide | omega) ?_
          refine mv_goW 1 (pc' := if 1 = 0 then 47 else 16) (ls' := [mv_R 100, mv_I 4, mv_I a, mv_I b, mv_I c, mv_I d, mv_I e, mv_U]) (st' := []) (M1 := M) rfl ?_
          refine mv_ffW (by decide) ?_
          refine mv_goW 1 (pc' := 17) (ls' := [mv_R 100, mv_I 4, mv_I a, mv_I b, mv_I c, mv_I d, mv_I e, mv_U]) (st' := [mv_I b]) (M1 := M) rfl ?_
          have ha167 : 0 ≤ b ∧ b ≤ 255 := by omega
          refine mv_callPW (st2 := [mv_I 1]) rfl (Or.inr rfl) rfl rfl rfl (sp_mby_t ha167) (by first | decide | omega) ?_
          refine mv_goW 1 (pc' := if 1 = 0 then 47 else 23) (ls' := [mv_R 100, mv_I 4, mv_I a, mv_I b, mv_I c, mv_I d, mv_I e, mv_U]) (st' := []) (M1 := M) rfl ?_
          refine mv_ffW (by decide) ?_
          refine mv_goW 1 (pc' := 25) (ls' := [mv_R 100, mv_I 4, mv_I a, mv_I b, mv_I c, mv_I d, mv_I e, mv_U]) (st' := [mv_I c]) (M1 := M) rfl ?_
          have ha168 : 0 ≤ c ∧ c ≤ 255 := by omega
          refine mv_callPW (st2 := [mv_I 1]) rfl (Or.inr rfl) rfl rfl rfl (sp_mby_t ha168) (by first | decide | omega) ?_
          refine mv_goW 1 (pc' := if 1 = 0 then 47 else 31) (ls' := [mv_R 100, mv_I 4, mv_I a, mv_I b, mv_I c, mv_I d, mv_I e, mv_U]) (st' := []) (M1 := M) rfl ?_
          refine mv_ffW (by decide) ?_
          refine mv_goW 1 (pc' := 33) (ls' := [mv_R 100, mv_I 4, mv_I a, mv_I b, mv_I c, mv_I d, mv_I e, mv_U]) (st' := [mv_I d]) (M1 := M) rfl ?_
          have ha169 : ¬ (0 ≤ d ∧ d ≤ 255) := by omega
          refine mv_callPW (st2 := [mv_I 0]) rfl (Or.inr rfl) rfl rfl rfl (sp_mby_f ha169) (by first | decide | omega) ?_
          refine mv_goW 1 (pc' := if 0 = 0 then 47 else 39) (ls' := [mv_R 100, mv_I 4, mv_I a, mv_I b, mv_I c, mv_I d, mv_I e, mv_U]) (st' := []) (M1 := M) rfl ?_
          refine mv_ttW (by decide) ?_
          refine mv_goW 1 (pc' := 49) (ls' := [mv_R 100, mv_I 4, mv_I a, mv_I b, mv_I c, mv_I d, mv_I e, mv_U]) (st' := [mv_I (-2)]) (M1 := M) rfl ?_
          exact mv_retW (fun n => rfl) ⟨congrArg mv_I (by first | with_reducible rfl | omega), hI⟩
      · refine mv_callPW (st2 := [mv_I 0]) rfl (Or.inr rfl) rfl rfl rfl (sp_cby_f ha135) (by first | decide | omega) ?_
        refine mv_goW 1 (pc' := if 0 = 0 then 48 else 32) (ls' := [mv_R 0, mv_I 4, mv_I a, mv_I b, mv_I c, mv_I d, mv_I e, mv_U]) (st' := []) (M1 := M) rfl ?_
        refine mv_ttW (by decide) ?_
        refine mv_goW 1 (pc' := 50) (ls' := [mv_R 0, mv_I 4, mv_I a, mv_I b, mv_I c, mv_I d, mv_I e, mv_U]) (st' := [mv_I (-2)]) (M1 := M) rfl ?_
        refine mv_retW (fun n => rfl) ⟨_, rfl, ?_⟩
        refine mv_goW 3 (pc' := 3) (ls' := [mv_R 100, mv_I 4, mv_I a, mv_I b, mv_I c, mv_I d, mv_I e, mv_U]) (st' := [mv_I 5, mv_I 1, mv_I 4]) (M1 := M) rfl ?_
        have ha170 : (1 : Int) ≤ (4 : Int) ∧ (4 : Int) ≤ (5 : Int) := by omega
        refine mv_callPW (st2 := [mv_I 1]) rfl (Or.inr rfl) rfl rfl rfl (sp_min_t ha170) (by first | decide | omega) ?_
        refine mv_goW 1 (pc' := if 1 = 0 then 47 else 9) (ls' := [mv_R 100, mv_I 4, mv_I a, mv_I b, mv_I c, mv_I d, mv_I e, mv_U]) (st' := []) (M1 := M) rfl ?_
        refine mv_ffW (by decide) ?_
        refine mv_goW 1 (pc' := 10) (ls' := [mv_R 100, mv_I 4, mv_I a, mv_I b, mv_I c, mv_I d, mv_I e, mv_U]) (st' := [mv_I a]) (M1 := M) rfl ?_
        have ha171 : 0 ≤ a ∧ a ≤ 255 := by omega
        refine mv_callPW (st2 := [mv_I 1]) rfl (Or.inr rfl) rfl rfl rfl (sp_mby_t ha171) (by first | decide | omega) ?_
        refine mv_goW 1 (pc' := if 1 = 0 then 47 else 16) (ls' := [mv_R 100, mv_I 4, mv_I a, mv_I b, mv_I c, mv_I d, mv_I e, mv_U]) (st' := []) (M1 := M) rfl ?_
        refine mv_ffW (by decide) ?_
        refine mv_goW 1 (pc' := 17) (ls' := [mv_R 100, mv_I 4, mv_I a, mv_I b, mv_I c, mv_I d, mv_I e, mv_U]) (st' := [mv_I b]) (M1 := M) rfl ?_
        have ha172 : 0 ≤ b ∧ b ≤ 255 := by omega
        refine mv_callPW (st2 := [mv_I 1]) rfl (Or.inr rfl) rfl rfl rfl (sp_mby_t ha172) (by first | decide | omega) ?_
        refine mv_goW 1 (pc' := if 1 = 0 then 47 else 23) (ls' := [mv_R 100, mv_I 4, mv_I a, mv_I b, mv_I c, mv_I d, mv_I e, mv_U]) (st' := []) (M1 := M) rfl ?_
        refine mv_ffW (by decide) ?_
        refine mv_goW 1 (pc' := 25) (ls' := [mv_R 100, mv_I 4, mv_I a, mv_I b, mv_I c, mv_I d, mv_I e, mv_U]) (st' := [mv_I c]) (M1 := M) rfl ?_
        have ha173 : ¬ (0 ≤ c ∧ c ≤ 255) := by omega
        refine mv_callPW (st2 := [mv_I 0]) rfl (Or.inr rfl) rfl rfl rfl (sp_mby_f ha173) (by first | decide | omega) ?_
        refine mv_goW 1 (pc' := if 0 = 0 then 47 else 31) (ls' := [mv_R 100, mv_I 4, mv_I a, mv_I b, mv_I c, mv_I d, mv_I e, mv_U]) (st' := []) (M1 := M) rfl ?_
        refine mv_ttW (by decide) ?_
        refine mv_goW 1 (pc' := 49) (ls' := [mv_R 100, mv_I 4, mv_I a, mv_I b, mv_I c, mv_I d, mv_I e, mv_U]) (st' := [mv_I (-2)]) (M1 := M) rfl ?_
        exact mv_retW (fun n => rfl) ⟨congrArg mv_I (by first | with_reducible rfl | omega), hI⟩
    · refine mv_callPW (st2 := [mv_I 0]) rfl (Or.inr rfl) rfl rfl rfl (sp_cby_f ha134) (by first | decide | omega) ?_
      refine mv_goW 1 (pc' := if 0 = 0 then 48 else 24) (ls' := [mv_R 0, mv_I 4, mv_I a, mv_I b, mv_I c, mv_I d, mv_I e, mv_U]) (st' := []) (M1 := M) rfl ?_
      refine mv_ttW (by decide) ?_
      refine mv_goW 1 (pc' := 50) (ls' := [mv_R 0, mv_I 4, mv_I a, mv_I b, mv_I c, mv_I d, mv_I e, mv_U]) (st' := [mv_I (-2)]) (M1 := M) rfl ?_
      refine mv_retW (fun n => rfl) ⟨_, rfl, ?_⟩
      refine mv_goW 3 (pc' := 3) (ls' := [mv_R 100, mv_I 4, mv_I a, mv_I b, mv_I c, mv_I d, mv_I e, mv_U]) (st' := [mv_I 5, mv_I 1, mv_I 4]) (M1 := M) rfl ?_
      have ha174 : (1 : Int) ≤ (4 : Int) ∧ (4 : Int) ≤ (5 : Int) := by omega
      refine mv_callPW (st2 := [mv_I 1]) rfl (Or.inr rfl) rfl rfl rfl (sp_min_t ha174) (by first | decide | omega) ?_
      refine mv_goW 1 (pc' := if 1 = 0 then 47 else 9) (ls' := [mv_R 100, mv_I 4, mv_I a, mv_I b, mv_I c, mv_I d, mv_I e, mv_U]) (st' := []) (M1 := M) rfl ?_
      refine mv_ffW (by decide) ?_
      refine mv_goW 1 (pc' := 10) (ls' := [mv_R 100, mv_I 4, mv_I a, mv_I b, mv_I c, mv_I d, mv_I e, mv_U]) (st' := [mv_I a]) (M1 := M) rfl ?_
      have ha175 : 0 ≤ a ∧ a ≤ 255 := by omega
      refine mv_callPW (st2 := [mv_I 1]) rfl (Or.inr rfl) rfl rfl rfl (sp_mby_t ha175) (by first | decide | omega) ?_
      refine mv_goW 1 (pc' := if 1 = 0 then 47 else 16) (ls' := [mv_R 100, mv_I 4, mv_I a, mv_I b, mv_I c, mv_I d, mv_I e, mv_U]) (st' := []) (M1 := M) rfl ?_
      refine mv_ffW (by decide) ?_
      refine mv_goW 1 (pc' := 17) (ls' := [mv_R 100, mv_I 4, mv_I a, mv_I b, mv_I c, mv_I d, mv_I e, mv_U]) (st' := [mv_I b]) (M1 := M) rfl ?_
      have ha176 : ¬ (0 ≤ b ∧ b ≤ 255) := by omega
      refine mv_callPW (st2 := [mv_I 0]) rfl (Or.inr rfl) rfl rfl rfl (sp_mby_f ha176) (by first | decide | omega) ?_
      refine mv_goW 1 (pc' := if 0 = 0 then 47 else 23) (ls' := [mv_R 100, mv_I 4, mv_I a, mv_I b, mv_I c, mv_I d, mv_I e, mv_U]) (st' := []) (M1 := M) rfl ?_
      refine mv_ttW (by decide) ?_
      refine mv_goW 1 (pc' := 49) (ls' := [mv_R 100, mv_I 4, mv_I a, mv_I b, mv_I c, mv_I d, mv_I e, mv_U]) (st' := [mv_I (-2)]) (M1 := M) rfl ?_
      exact mv_retW (fun n => rfl) ⟨congrArg mv_I (by first | with_reducible rfl | omega), hI⟩
  · refine mv_callPW (st2 := [mv_I 0]) rfl (Or.inr rfl) rfl rfl rfl (sp_cby_f ha133) (by first | decide | omega) ?_
    refine mv_goW 1 (pc' := if 0 = 0 then 48 else 17) (ls' := [mv_R 0, mv_I 4, mv_I a, mv_I b, mv_I c, mv_I d, mv_I e, mv_U]) (st' := []) (M1 := M) rfl ?_
    refine mv_ttW (by decide) ?_
    refine mv_goW 1 (pc' := 50) (ls' := [mv_R 0, mv_I 4, mv_I a, mv_I b, mv_I c, mv_I d, mv_I e, mv_U]) (st' := [mv_I (-2)]) (M1 := M) rfl ?_
    refine mv_retW (fun n => rfl) ⟨_, rfl, ?_⟩
    refine mv_goW 3 (pc' := 3) (ls' := [mv_R 100, mv_I 4, mv_I a, mv_I b, mv_I c, mv_I d, mv_I e, mv_U]) (st' := [mv_I 5, mv_I 1, mv_I 4]) (M1 := M) rfl ?_
    have ha177 : (1 : Int) ≤ (4 : Int) ∧ (4 : Int) ≤ (5 : Int) := by omega
    refine mv_callPW (st2 := [mv_I 1]) rfl (Or.inr rfl) rfl rfl rfl (sp_min_t ha177) (by first | decide | omega) ?_
    refine mv_goW 1 (pc' := if 1 = 0 then 47 else 9) (ls' := [mv_R 100, mv_I 4, mv_I a, mv_I b, mv_I c, mv_I d, mv_I e, mv_U]) (st' := []) (M1 := M) rfl ?_
    refine mv_ffW (by decide) ?_
    refine mv_goW 1 (pc' := 10) (ls' := [mv_R 100, mv_I 4, mv_I a, mv_I b, mv_I c, mv_I d, mv_I e, mv_U]) (st' := [mv_I a]) (M1 := M) rfl ?_
    have ha178 : ¬ (0 ≤ a ∧ a ≤ 255) := by omega
    refine mv_callPW (st2 := [mv_I 0]) rfl (Or.inr rfl) rfl rfl rfl (sp_mby_f ha178) (by first | decide | omega) ?_
    refine mv_goW 1 (pc' := if 0 = 0 then 47 else 16) (ls' := [mv_R 100, mv_I 4, mv_I a, mv_I b, mv_I c, mv_I d, mv_I e, mv_U]) (st' := []) (M1 := M) rfl ?_
    refine mv_ttW (by decide) ?_
    refine mv_goW 1 (pc' := 49) (ls' := [mv_R 100, mv_I 4, mv_I a, mv_I b, mv_I c, mv_I d, mv_I e, mv_U]) (st' := [mv_I (-2)]) (M1 := M) rfl ?_
    exact mv_retW (fun n => rfl) ⟨congrArg mv_I (by first | with_reducible rfl | omega), hI⟩
theorem sp_k2_5 (a b c d e : Int) : sp_call 63 125 [mv_I 5, mv_I a, mv_I b, mv_I c, mv_I d, mv_I e] [mv_I 5, mv_I a, mv_I b, mv_I c, mv_I d, mv_I e] := by
  refine sp_mkW (lc := [mv_R 0, mv_I 5, mv_I a, mv_I b, mv_I c, mv_I d, mv_I e, mv_U]) (lm := [mv_R 100, mv_I 5, mv_I a, mv_I b, mv_I c, mv_I d, mv_I e, mv_U]) rfl rfl (fun M hI => ?_)
  have hI2 := hI
  obtain ⟨V, P, n, B, K, t, h⟩ := hI2
  have h' := h
  obtain ⟨_, _, _, _, htp, _⟩ := h'
  have ht28 := htp.1
  have ht160 := htp.2.2.1
  refine mv_goW 3 (pc' := if 5 < 1 then 48 else 5) (ls' := [mv_R 0, mv_I 5, mv_I a, mv_I b, mv_I c, mv_I d, mv_I e, mv_U]) (st' := []) (M1 := M) rfl ?_
  refine mv_ffW (by decide) ?_
  refine mv_goW 3 (pc' := if 5 < 5 then 48 else 10) (ls' := [mv_R 0, mv_I 5, mv_I a, mv_I b, mv_I c, mv_I d, mv_I e, mv_U]) (st' := []) (M1 := M) rfl ?_
  refine mv_ffW (by decide) ?_
  refine mv_goW 1 (pc' := 11) (ls' := [mv_R 0, mv_I 5, mv_I a, mv_I b, mv_I c, mv_I d, mv_I e, mv_U]) (st' := [mv_I a]) (M1 := M) rfl ?_
  by_cases ha179 : 0 ≤ a ∧ a ≤ 255
  · refine mv_callPW (st2 := [mv_I 1]) rfl (Or.inr rfl) rfl rfl rfl (sp_cby_t ha179) (by first | decide | omega) ?_
    refine mv_goW 1 (pc' := if 1 = 0 then 48 else 17) (ls' := [mv_R 0, mv_I 5, mv_I a, mv_I b, mv_I c, mv_I d, mv_I e, mv_U]) (st' := []) (M1 := M) rfl ?_
    refine mv_ffW (by decide) ?_
    refine mv_goW 1 (pc' := 18) (ls' := [mv_R 0, mv_I 5, mv_I a, mv_I b, mv_I c, mv_I d, mv_I e, mv_U]) (st' := [mv_I b]) (M1 := M) rfl ?_
    by_cases ha180 : 0 ≤ b ∧ b ≤ 255
    · refine mv_callPW (st2 := [mv_I 1]) rfl (Or.inr rfl) rfl rfl rfl (sp_cby_t ha180) (by first | decide | omega) ?_
      refine mv_goW 1 (pc' := if 1 = 0 then 48 else 24) (ls' := [mv_R 0, mv_I 5, mv_I a, mv_I b, mv_I c, mv_I d, mv_I e, mv_U]) (st' := []) (M1 := M) rfl ?_
      refine mv_ffW (by decide) ?_
      refine mv_goW 1 (pc' := 26) (ls' := [mv_R 0, mv_I 5, mv_I a, mv_I b, mv_I c, mv_I d, mv_I e, mv_U]) (st' := [mv_I c]) (M1 := M) rfl ?_
      by_cases ha181 : 0 ≤ c ∧ c ≤ 255
      · refine mv_callPW (st2 := [mv_I 1]) rfl (Or.inr rfl) rfl rfl rfl (sp_cby_t ha181) (by first | decide | omega) ?_
        refine mv_goW 1 (pc' := if 1 = 0 then 48 else 32) (ls' := [mv_R 0, mv_I 5, mv_I a, mv_I b, mv_I c, mv_I d, mv_I e, mv_U]) (st' := []) (M1 := M) rfl ?_
        refine mv_ffW (by decide) ?_
        refine mv_goW 1 (pc' := 34) (ls' := [mv_R 0, mv_I 5, mv_I a, mv_I b, mv_I c, mv_I d, mv_I e, mv_U]) (st' := [mv_I d]) (M1 := M) rfl ?_
        by_cases ha182 : 0 ≤ d ∧ d ≤ 255
        · refine mv_callPW (st2 := [mv_I 1]) rfl (Or.inr rfl) rfl rfl rfl (sp_cby_t ha182) (by first | decide | omega) ?_
          refine mv_goW 1 (pc' := if 1 = 0 then 48 else 40) (ls' := [mv_R 0, mv_I 5, mv_I a, mv_I b, mv_I c, mv_I d, mv_I e, mv_U]) (st' := []) (M1 := M) rfl ?_
          refine mv_ffW (by decide) ?_
          refine mv_goW 1 (pc' := 42) (ls' := [mv_R 0, mv_I 5, mv_I a, mv_I b, mv_I c, mv_I d, mv_I e, mv_U]) (st' := [mv_I e]) (M1 := M) rfl ?_
          by_cases ha183 : 0 ≤ e ∧ e ≤ 255
          · refine mv_callPW (st2 := [mv_I 1]) rfl (Or.inr rfl) rfl rfl rfl (sp_cby_t ha183) (by first | decide | omega) ?_
            refine mv_goW 1 (pc' := if 1 = 0 then 48 else 51) (ls' := [mv_R 0, mv_I 5, mv_I a, mv_I b, mv_I c, mv_I d, mv_I e, mv_U]) (st' := []) (M1 := M) rfl ?_
            refine mv_ffW (by decide) ?_
            refine mv_goW 3 (pc' := 58) (ls' := [mv_R 0, mv_I 5, mv_I a, mv_I b, mv_I c, mv_I d, mv_I e, mv_U]) (st' := [mv_I (M 28 1)]) (M1 := M) rfl ?_
            rw [show M 28 1 = (t : Int) from by exact htp.1]
            refine mv_goW 4 (pc' := if 160 < (mv_w ((t : Int) + 5)) then 66 else 69) (ls' := [mv_R 0, mv_I 5, mv_I a, mv_I b, mv_I c, mv_I d, mv_I e, mv_U]) (st' := []) (M1 := M) rfl ?_
            rw [show mv_w ((t : Int) + 5) = (t : Int) + 5 from mv_w_id (by omega) (by omega)]
            refine mv_spW (fun ha184 => ?_) (fun ha184 => ?_)
            · refine mv_goW 1 (pc' := 68) (ls' := [mv_R 0, mv_I 5, mv_I a, mv_I b, mv_I c, mv_I d, mv_I e, mv_U]) (st' := [mv_I (-4)]) (M1 := M) rfl ?_
              refine mv_retW (fun n => rfl) ⟨_, rfl, ?_⟩
              refine mv_goW 3 (pc' := 3) (ls' := [mv_R 100, mv_I 5, mv_I a, mv_I b, mv_I c, mv_I d, mv_I e, mv_U]) (st' := [mv_I 5, mv_I 1, mv_I 5]) (M1 := M) rfl ?_
              have ha185 : (1 : Int) ≤ (5 : Int) ∧ (5 : Int) ≤ (5 : Int) := by omega
              refine mv_callPW (st2 := [mv_I 1]) rfl (Or.inr rfl) rfl rfl rfl (sp_min_t ha185) (by first | decide | omega) ?_
              refine mv_goW 1 (pc' := if 1 = 0 then 47 else 9) (ls' := [mv_R 100, mv_I 5, mv_I a, mv_I b, mv_I c, mv_I d, mv_I e, mv_U]) (st' := []) (M1 := M) rfl ?_
              refine mv_ffW (by decide) ?_
              refine mv_goW 1 (pc' := 10) (ls' := [mv_R 100, mv_I 5, mv_I a, mv_I b, mv_I c, mv_I d, mv_I e, mv_U]) (st' := [mv_I a]) (M1 := M) rfl ?_
              have ha186 : 0 ≤ a ∧ a ≤ 255 := by omega
              refine mv_callPW (st2 := [mv_I 1]) rfl (Or.inr rfl) rfl rfl rfl (sp_mby_t ha186) (by first | decide | omega) ?_
              refine mv_goW 1 (pc' := if 1 = 0 then 47 else 16) (ls' := [mv_R 100, mv_I 5, mv_I a, mv_I b, mv_I c, mv_I d, mv_I e, mv_U]) (st' := []) (M1 := M) rfl ?_
              refine mv_ffW (by decide) ?_
              refine mv_goW 1 (pc' := 17) (ls' := [mv_R 100, mv_I 5, mv_I a, mv_I b, mv_I c, mv_I d, mv_I e, mv_U]) (st' := [mv_I b]) (M1 := M) rfl ?_
              have ha187 : 0 ≤ b ∧ b ≤ 255 := by omega
              refine mv_callPW (st2 := [mv_I 1]) rfl (Or.inr rfl) rfl rfl rfl (sp_mby_t ha187) (by first | decide | omega) ?_
              refine mv_goW 1 (pc' := if 1 = 0 then 47 else 23) (ls' := [mv_R 100, mv_I 5, mv_I a, mv_I b, mv_I c, mv_I d, mv_I e, mv_U]) (st' := []) (M1 := M) rfl ?_
              refine mv_ffW (by decide) ?_
              refine mv_goW 1 (pc' := 25) (ls' := [mv_R 100, mv_I 5, mv_I a, mv_I b, mv_I c, mv_I d, mv_I e, mv_U]) (st' := [mv_I c]) (M1 := M) rfl ?_
              have ha188 : 0 ≤ c ∧ c ≤ 255 := by omega
              refine mv_callPW (st2 := [mv_I 1]) rfl (Or.inr rfl) rfl rfl rfl (sp_mby_t ha188) (by first | decide | omega) ?_
              refine mv_goW 1 (pc' := if 1 = 0 then 47 else 31) (ls' := [mv_R 100, mv_I 5, mv_I a, mv_I b, mv_I c, mv_I d, mv_I e, mv_U]) (st' := []) (M1 := M) rfl ?_
              refine mv_ffW (by decide) ?_
              refine mv_goW 1 (pc' := 33) (ls' := [mv_R 100, mv_I 5, mv_I a, mv_I b, mv_I c, mv_I d, mv_I e, mv_U]) (st' := [mv_I d]) (M1 := M) rfl ?_
              have ha189 : 0 ≤ d ∧ d ≤ 255 := by omega
              refine mv_callPW (st2 := [mv_I 1]) rfl (Or.inr rfl) rfl rfl rfl (sp_mby_t ha189) (by first | decide | omega) ?_
              refine mv_goW 1 (pc' := if 1 = 0 then 47 else 39) (ls' := [mv_R 100, mv_I 5, mv_I a, mv_I b, mv_I c, mv_I d, mv_I e, mv_U]) (st' := []) (M1 := M) rfl ?_
              refine mv_ffW (by decide) ?_
              refine mv_goW 1 (pc' := 41) (ls' := [mv_R 100, mv_I 5, mv_I a, mv_I b, mv_I c, mv_I d, mv_I e, mv_U]) (st' := [mv_I e]) (M1 := M) rfl ?_
              have ha190 : 0 ≤ e ∧ e ≤ 255 := by omega
              refine mv_callPW (st2 := [mv_I 1]) rfl (Or.inr rfl) rfl rfl rfl (sp_mby_t ha190) (by first | decide | omega) ?_
              refine mv_goW 1 (pc' := if 1 = 0 then 47 else 50) (ls' := [mv_R 100, mv_I 5, mv_I a, mv_I b, mv_I c, mv_I d, mv_I e, mv_U]) (st' := []) (M1 := M) rfl ?_
              refine mv_ffW (by decide) ?_
              refine mv_goW 2 (pc' := 54) (ls' := [mv_R 100, mv_I 5, mv_I a, mv_I b, mv_I c, mv_I d, mv_I e, mv_U]) (st' := [mv_I (M 100 9)]) (M1 := M) rfl ?_
              rw [show M 100 9 = (t : Int) from by exact htp.2.1]
              refine mv_goW 4 (pc' := if 160 < (mv_w ((t : Int) + 5)) then 62 else 65) (ls' := [mv_R 100, mv_I 5, mv_I a, mv_I b, mv_I c, mv_I d, mv_I e, mv_U]) (st' := []) (M1 := M) rfl ?_
              rw [show mv_w ((t : Int) + 5) = (t : Int) + 5 from mv_w_id (by omega) (by omega)]
              refine mv_ttW (by omega) ?_
              refine mv_goW 1 (pc' := 64) (ls' := [mv_R 100, mv_I 5, mv_I a, mv_I b, mv_I c, mv_I d, mv_I e, mv_U]) (st' := [mv_I (-4)]) (M1 := M) rfl ?_
              exact mv_retW (fun n => rfl) ⟨congrArg mv_I (by first | with_reducible rfl | omega), hI⟩
            · refine mv_goW 5 (pc' := if 0 < 5 then 78 else 134) (ls' := [mv_R 0, mv_I 5, mv_I a, mv_I b, mv_I c, mv_I d, mv_I e, mv_I 0]) (st' := []) (M1 := M) rfl ?_
              refine mv_ttW (by decide) ?_
              refine mv_goW 4 (pc' := if 0 = 0 then 87 else 91) (ls' := [mv_R 0, mv_I 5, mv_I a, mv_I b, mv_I c, mv_I d, mv_I e, mv_I 0]) (st' := [mv_R 28]) (M1 := M) rfl ?_
              refine mv_ttW (by decide) ?_
              refine mv_goW 2 (pc' := 125) (ls' := [mv_R 0, mv_I 5, mv_I a, mv_I b, mv_I c, mv_I d, mv_I e, mv_I 0]) (st' := [mv_I a, mv_R 28]) (M1 := M) rfl ?_
              refine mv_callW (st2 := []) rfl (Or.inl rfl) rfl rfl rfl (sp_app (t := t) (by first | exact ht28 | rfl) (by omega)) (by first | decide | omega) (fun Ma191 hm192 => ?_)
              subst hm192
              refine mv_goW 5 (pc' := if (mv_w (0 + 1)) < 5 then 78 else 134) (ls' := [mv_R 0, mv_I 5, mv_I a, mv_I b, mv_I c, mv_I d, mv_I e, mv_I (mv_w (0 + 1))]) (st' := []) (M1 := (mv_st (mv_st M 29 (mv_up (M 29) t a)) 28 (mv_up (M 28) 1 ((t + 1 : Nat) : Int)))) rfl ?_
              rw [show mv_w (0 + 1) = 0 + 1 from mv_w_id (by omega) (by omega)]
              refine mv_ttW (by decide) ?_
              refine mv_goW 4 (pc' := if (0 + 1) = 0 then 87 else 91) (ls' := [mv_R 0, mv_I 5, mv_I a, mv_I b, mv_I c, mv_I d, mv_I e, mv_I (0 + 1)]) (st' := [mv_R 28]) (M1 := (mv_st (mv_st M 29 (mv_up (M 29) t a)) 28 (mv_up (M 28) 1 ((t + 1 : Nat) : Int)))) rfl ?_
              refine mv_ffW (by decide) ?_
              refine mv_goW 3 (pc' := if (0 + 1) = 1 then 97 else 101) (ls' := [mv_R 0, mv_I 5, mv_I a, mv_I b, mv_I c, mv_I d, mv_I e, mv_I (0 + 1)]) (st' := [mv_R 28]) (M1 := (mv_st (mv_st M 29 (mv_up (M 29) t a)) 28 (mv_up (M 28) 1 ((t + 1 : Nat) : Int)))) rfl ?_
              refine mv_ttW (by decide) ?_
              refine mv_goW 2 (pc' := 125) (ls' := [mv_R 0, mv_I 5, mv_I a, mv_I b, mv_I c, mv_I d, mv_I e, mv_I (0 + 1)]) (st' := [mv_I b, mv_R 28]) (M1 := (mv_st (mv_st M 29 (mv_up (M 29) t a)) 28 (mv_up (M 28) 1 ((t + 1 : Nat) : Int)))) rfl ?_
              refine mv_callW (st2 := []) rfl (Or.inl rfl) rfl rfl rfl (sp_app (t := t + 1) (by first | exact ht28 | rfl) (by omega)) (by first | decide | omega) (fun Ma193 hm194 => ?_)
              subst hm194
              refine mv_goW 5 (pc' := if (mv_w ((0 + 1) + 1)) < 5 then 78 else 134) (ls' := [mv_R 0, mv_I 5, mv_I a, mv_I b, mv_I c, mv_I d, mv_I e, mv_I (mv_w ((0 + 1) + 1))]) (st' := []) (M1 := (mv_st (mv_st (mv_st (mv_st M 29 (mv_up (M 29) t a)) 28 (mv_up (M 28) 1 ((t + 1 : Nat) : Int))) 29 (mv_up (mv_up (M 29) t a) (t + 1) b)) 28 (mv_up (mv_up (M 28) 1 ((t + 1 : Nat) : Int)) 1 ((t + 2 : Nat) : Int)))) rfl ?_
              rw [show mv_w ((0 + 1) + 1) = (0 + 1) + 1 from mv_w_id (by omega) (by omega)]
              refine mv_ttW (by decide) ?_
              refine mv_goW 4 (pc' := if ((0 + 1) + 1) = 0 then 87 else 91) (ls' := [mv_R 0, mv_I 5, mv_I a, mv_I b, mv_I c, mv_I d, mv_I e, mv_I ((0 + 1) + 1)]) (st' := [mv_R 28]) (M1 := (mv_st (mv_st (mv_st (mv_st M 29 (mv_up (M 29) t a)) 28 (mv_up (M 28) 1 ((t + 1 : Nat) : Int))) 29 (mv_up (mv_up (M 29) t a) (t + 1) b)) 28 (mv_up (mv_up (M 28) 1 ((t + 1 : Nat) : Int)) 1 ((t + 2 : Nat) : Int)))) rfl ?_
              refine mv_ffW (by decide) ?_
              refine mv_goW 3 (pc' := if ((0 + 1) + 1) = 1 then 97 else 101) (ls' := [mv_R 0, mv_I 5, mv_I a, mv_I b, mv_I c, mv_I d, mv_I e, mv_I ((0 + 1) + 1)]) (st' := [mv_R 28]) (M1 := (mv_st (mv_st (mv_st (mv_st M 29 (mv_up (M 29) t a)) 28 (mv_up (M 28) 1 ((t + 1 : Nat) : Int))) 29 (mv_up (mv_up (M 29) t a) (t + 1) b)) 28 (mv_up (mv_up (M 28) 1 ((t + 1 : Nat) : Int)) 1 ((t + 2 : Nat) : Int)))) rfl ?_
              refine mv_ffW (by decide) ?_
              refine mv_goW 3 (pc' := if ((0 + 1) + 1) = 2 then 107 else 112) (ls' := [mv_R 0, mv_I 5, mv_I a, mv_I b, mv_I c, mv_I d, mv_I e, mv_I ((0 + 1) + 1)]) (st' := [mv_R 28]) (M1 := (mv_st (mv_st (mv_st (mv_st M 29 (mv_up (M 29) t a)) 28 (mv_up (M 28) 1 ((t + 1 : Nat) : Int))) 29 (mv_up (mv_up (M 29) t a) (t + 1) b)) 28 (mv_up (mv_up (M 28) 1 ((t + 1 : Nat) : Int)) 1 ((t + 2 : Nat) : Int)))) rfl ?_
              refine mv_ttW (by decide) ?_
              refine mv_goW 2 (pc' := 125) (ls' := [mv_R 0, mv_I 5, mv_I a, mv_I b, mv_I c, mv_I d, mv_I e, mv_I ((0 + 1) + 1)]) (st' := [mv_I c, mv_R 28]) (M1 := (mv_st (mv_st (mv_st (mv_st M 29 (mv_up (M 29) t a)) 28 (mv_up (M 28) 1 ((t + 1 : Nat) : Int))) 29 (mv_up (mv_up (M 29) t a) (t + 1) b)) 28 (mv_up (mv_up (M 28) 1 ((t + 1 : Nat) : Int)) 1 ((t + 2 : Nat) : Int)))) rfl ?_
              refine mv_callW (st2 := []) rfl (Or.inl rfl) rfl rfl rfl (sp_app (t := t + 2) (by first | exact ht28 | rfl) (by omega)) (by first | decide | omega) (fun Ma195 hm196 => ?_)
              subst hm196
              refine mv_goW 5 (pc' := if (mv_w (((0 + 1) + 1) + 1)) < 5 then 78 else 134) (ls' := [mv_R 0, mv_I 5, mv_I a, mv_I b, mv_I c, mv_I d, mv_I e, mv_I (mv_w (((0 + 1) + 1) + 1))]) (st' := []) (M1 := (mv_st (mv_st (mv_st (mv_st (mv_st (mv_st M 29 (mv_up (M 29) t a)) 28 (mv_up (M 28) 1 ((t + 1 : Nat) : Int))) 29 (mv_up (mv_up (M 29) t a) (t + 1) b)) 28 (mv_up (mv_up (M 28) 1 ((t + 1 : Nat) : Int)) 1 ((t + 2 : Nat) : Int))) 29 (mv_up (mv_up (mv_up (M 29) t a) (t + 1) b) (t + 2) c)) 28 (mv_up (mv_up (mv_up (M 28) 1 ((t + 1 : Nat) : Int)) 1 ((t + 2 : Nat) : Int)) 1 ((t + 3 : Nat) : Int)))) rfl ?_
              rw [show mv_w (((0 + 1) + 1) + 1) = ((0 + 1) + 1) + 1 from mv_w_id (by omega) (by omega)]
              refine mv_ttW (by decide) ?_
              refine mv_goW 4 (pc' := if (((0 + 1) + 1) + 1) = 0 then 87 else 91) (ls' := [mv_R 0, mv_I 5, mv_I a, mv_I b, mv_I c, mv_I d, mv_I e, mv_I (((0 + 1) + 1) + 1)]) (st' := [mv_R 28]) (M1 := (mv_st (mv_st (mv_st (mv_st (mv_st (mv_st M 29 (mv_up (M 29) t a)) 28 (mv_up (M 28) 1 ((t + 1 : Nat) : Int))) 29 (mv_up (mv_up (M 29) t a) (t + 1) b)) 28 (mv_up (mv_up (M 28) 1 ((t + 1 : Nat) : Int)) 1 ((t + 2 : Nat) : Int))) 29 (mv_up (mv_up (mv_up (M 29) t a) (t + 1) b) (t + 2) c)) 28 (mv_up (mv_up (mv_up (M 28) 1 ((t + 1 : Nat) : Int)) 1 ((t + 2 : Nat) : Int)) 1 ((t + 3 : Nat) : Int)))) rfl ?_
              refine mv_ffW (by decide) ?_
              refine mv_goW 3 (pc' := if (((0 + 1) + 1) + 1) = 1 then 97 else 101) (ls' := [mv_R 0, mv_I 5, mv_I a, mv_I b, mv_I c, mv_I d, mv_I e, mv_I (((0 + 1) + 1) + 1)]) (st' := [mv_R 28]) (M1 := (mv_st (mv_st (mv_st (mv_st (mv_st (mv_st M 29 (mv_up (M 29) t a)) 28 (mv_up (M 28) 1 ((t + 1 : Nat) : Int))) 29 (mv_up (mv_up (M 29) t a) (t + 1) b)) 28 (mv_up (mv_up (M 28) 1 ((t + 1 : Nat) : Int)) 1 ((t + 2 : Nat) : Int))) 29 (mv_up (mv_up (mv_up (M 29) t a) (t + 1) b) (t + 2) c)) 28 (mv_up (mv_up (mv_up (M 28) 1 ((t + 1 : Nat) : Int)) 1 ((t + 2 : Nat) : Int)) 1 ((t + 3 : Nat) : Int)))) rfl ?_
              refine mv_ffW (by decide) ?_
              refine mv_goW 3 (pc' := if (((0 + 1) + 1) + 1) = 2 then 107 else 112) (ls' := [mv_R 0, mv_I 5, mv_I a, mv_I b, mv_I c, mv_I d, mv_I e, mv_I (((0 + 1) + 1) + 1)]) (st' := [mv_R 28]) (M1 := (mv_st (mv_st (mv_st (mv_st (mv_st (mv_st M 29 (mv_up (M 29) t a)) 28 (mv_up (M 28) 1 ((t + 1 : Nat) : Int))) 29 (mv_up (mv_up (M 29) t a) (t + 1) b)) 28 (mv_up (mv_up (M 28) 1 ((t + 1 : Nat) : Int)) 1 ((t + 2 : Nat) : Int))) 29 (mv_up (mv_up (mv_up (M 29) t a) (t + 1) b) (t + 2) c)) 28 (mv_up (mv_up (mv_up (M 28) 1 ((t + 1 : Nat) : Int)) 1 ((t + 2 : Nat) : Int)) 1 ((t + 3 : Nat) : Int)))) rfl ?_
              refine mv_ffW (by decide) ?_
              refine mv_goW 3 (pc' := if (((0 + 1) + 1) + 1) = 3 then 118 else 123) (ls' := [mv_R 0, mv_I 5, mv_I a, mv_I b, mv_I c, mv_I d, mv_I e, mv_I (((0 + 1) + 1) + 1)]) (st' := [mv_R 28]) (M1 := (mv_st (mv_st (mv_st (mv_st (mv_st (mv_st M 29 (mv_up (M 29) t a)) 28 (mv_up (M 28) 1 ((t + 1 : Nat) : Int))) 29 (mv_up (mv_up (M 29) t a) (t + 1) b)) 28 (mv_up (mv_up (M 28) 1 ((t + 1 : Nat) : Int)) 1 ((t + 2 : Nat) : Int))) 29 (mv_up (mv_up (mv_up (M 29) t a) (t + 1) b) (t + 2) c)) 28 (mv_up (mv_up (mv_up (M 28) 1 ((t + 1 : Nat) : Int)) 1 ((t + 2 : Nat) : Int)) 1 ((t + 3 : Nat) : Int)))) rfl ?_
              refine mv_ttW (by decide) ?_
              refine mv_goW 2 (pc' := 125) (ls' := [mv_R 0, mv_I 5, mv_I a, mv_I b, mv_I c, mv_I d, mv_I e, mv_I (((0 + 1) + 1) + 1)]) (st' := [mv_I d, mv_R 28]) (M1 := (mv_st (mv_st (mv_st (mv_st (mv_st (mv_st M 29 (mv_up (M 29) t a)) 28 (mv_up (M 28) 1 ((t + 1 : Nat) : Int))) 29 (mv_up (mv_up (M 29) t a) (t + 1) b)) 28 (mv_up (mv_up (M 28) 1 ((t + 1 : Nat) : Int)) 1 ((t + 2 : Nat) : Int))) 29 (mv_up (mv_up (mv_up (M 29) t a) (t + 1) b) (t + 2) c)) 28 (mv_up (mv_up (mv_up (M 28) 1 ((t + 1 : Nat) : Int)) 1 ((t + 2 : Nat) : Int)) 1 ((t + 3 : Nat) : Int)))) rfl ?_
              refine mv_callW (st2 := []) rfl (Or.inl rfl) rfl rfl rfl (sp_app (t := t + 3) (by first | exact ht28 | rfl) (by omega)) (by first | decide | omega) (fun Ma197 hm198 => ?_)
              subst hm198
              refine mv_goW 5 (pc' := if (mv_w ((((0 + 1) + 1) + 1) + 1)) < 5 then 78 else 134) (ls' := [mv_R 0, mv_I 5, mv_I a, mv_I b, mv_I c, mv_I d, mv_I e, mv_I (mv_w ((((0 + 1) + 1) + 1) + 1))]) (st' := []) (M1 := (mv_st (mv_st (mv_st (mv_st (mv_st (mv_st (mv_st (mv_st M 29 (mv_up (M 29) t a)) 28 (mv_up (M 28) 1 ((t + 1 : Nat) : Int))) 29 (mv_up (mv_up (M 29) t a) (t + 1) b)) 28 (mv_up (mv_up (M 28) 1 ((t + 1 : Nat) : Int)) 1 ((t + 2 : Nat) : Int))) 29 (mv_up (mv_up (mv_up (M 29) t a) (t + 1) b) (t + 2) c)) 28 (mv_up (mv_up (mv_up (M 28) 1 ((t + 1 : Nat) : Int)) 1 ((t + 2 : Nat) : Int)) 1 ((t + 3 : Nat) : Int))) 29 (mv_up (mv_up (mv_up (mv_up (M 29) t a) (t + 1) b) (t + 2) c) (t + 3) d)) 28 (mv_up (mv_up (mv_up (mv_up (M 28) 1 ((t + 1 : Nat) : Int)) 1 ((t + 2 : Nat) : Int)) 1 ((t + 3 : Nat) : Int)) 1 ((t + 4 : Nat) : Int)))) rfl ?_
              rw [show mv_w ((((0 + 1) + 1) + 1) + 1) = (((0 + 1) + 1) + 1) + 1 from mv_w_id (by omega) (by omega)]
              refine mv_ttW (by decide) ?_
              refine mv_goW 4 (pc' := if ((((0 + 1) + 1) + 1) + 1) = 0 then 87 else 91) (ls' := [mv_R 0, mv_I 5, mv_I a, mv_I b, mv_I c, mv_I d, mv_I e, mv_I ((((0 + 1) + 1) + 1) + 1)]) (st' := [mv_R 28]) (M1 := (mv_st (mv_st (mv_st (mv_st (mv_st (mv_st (mv_st (mv_st M 29 (mv_up (M 29) t a)) 28 (mv_up (M 28) 1 ((t + 1 : Nat) : Int))) 29 (mv_up (mv_up (M 29) t a) (t + 1) b)) 28 (mv_up (mv_up (M 28) 1 ((t + 1 : Nat) : Int)) 1 ((t + 2 : Nat) : Int))) 29 (mv_up (mv_up (mv_up (M 29) t a) (t + 1) b) (t + 2) c)) 28 (mv_up (mv_up (mv_up (M 28) 1 ((t + 1 : Nat) : Int)) 1 ((t + 2 : Nat) : Int)) 1 ((t + 3 : Nat) : Int))) 29 (mv_up (mv_up (mv_up (mv_up (M 29) t a) (t + 1) b) (t + 2) c) (t + 3) d)) 28 (mv_up (mv_up (mv_up (mv_up (M 28) 1 ((t + 1 : Nat) : Int)) 1 ((t + 2 : Nat) : Int)) 1 ((t + 3 : Nat) : Int)) 1 ((t + 4 : Nat) : Int)))) rfl ?_
              refine mv_ffW (by decide) ?_
              refine mv_goW 3 (pc' := if ((((0 + 1) + 1) + 1) + 1) = 1 then 97 else 101) (ls' := [mv_R 0, mv_I 5, mv_I a, mv_I b, mv_I c, mv_I d, mv_I e, mv_I ((((0 + 1) + 1) + 1) + 1)]) (st' := [mv_R 28]) (M1 := (mv_st (mv_st (mv_st (mv_st (mv_st (mv_st (mv_st (mv_st M 29 (mv_up (M 29) t a)) 28 (mv_up (M 28) 1 ((t + 1 : Nat) : Int))) 29 (mv_up (mv_up (M 29) t a) (t + 1) b)) 28 (mv_up (mv_up (M 28) 1 ((t + 1 : Nat) : Int)) 1 ((t + 2 : Nat) : Int))) 29 (mv_up (mv_up (mv_up (M 29) t a) (t + 1) b) (t + 2) c)) 28 (mv_up (mv_up (mv_up (M 28) 1 ((t + 1 : Nat) : Int)) 1 ((t + 2 : Nat) : Int)) 1 ((t + 3 : Nat) : Int))) 29 (mv_up (mv_up (mv_up (mv_up (M 29) t a) (t + 1) b) (t + 2) c) (t + 3) d)) 28 (mv_up (mv_up (mv_up (mv_up (M 28) 1 ((t + 1 : Nat) : Int)) 1 ((t + 2 : Nat) : Int)) 1 ((t + 3 : Nat) : Int)) 1 ((t + 4 : Nat) : Int)))) rfl ?_
              refine mv_ffW (by decide) ?_
              refine mv_goW 3 (pc' := if ((((0 + 1) + 1) + 1) + 1) = 2 then 107 else 112) (ls' := [mv_R 0, mv_I 5, mv_I a, mv_I b, mv_I c, mv_I d, mv_I e, mv_I ((((0 + 1) + 1) + 1) + 1)]) (st' := [mv_R 28]) (M1 := (mv_st (mv_st (mv_st (mv_st (mv_st (mv_st (mv_st (mv_st M 29 (mv_up (M 29) t a)) 28 (mv_up (M 28) 1 ((t + 1 : Nat) : Int))) 29 (mv_up (mv_up (M 29) t a) (t + 1) b)) 28 (mv_up (mv_up (M 28) 1 ((t + 1 : Nat) : Int)) 1 ((t + 2 : Nat) : Int))) 29 (mv_up (mv_up (mv_up (M 29) t a) (t + 1) b) (t + 2) c)) 28 (mv_up (mv_up (mv_up (M 28) 1 ((t + 1 : Nat) : Int)) 1 ((t + 2 : Nat) : Int)) 1 ((t + 3 : Nat) : Int))) 29 (mv_up (mv_up (mv_up (mv_up (M 29) t a) (t + 1) b) (t + 2) c) (t + 3) d)) 28 (mv_up (mv_up (mv_up (mv_up (M 28) 1 ((t + 1 : Nat) : Int)) 1 ((t + 2 : Nat) : Int)) 1 ((t + 3 : Nat) : Int)) 1 ((t + 4 : Nat) : Int)))) rfl ?_
              refine mv_ffW (by decide) ?_
              refine mv_goW 3 (pc' := if ((((0 + 1) + 1) + 1) + 1) = 3 then 118 else 123) (ls' := [mv_R 0, mv_I 5, mv_I a, mv_I b, mv_I c, mv_I d, mv_I e, mv_I ((((0 + 1) + 1) + 1) + 1)]) (st' := [mv_R 28]) (M1 := (mv_st (mv_st (mv_st (mv_st (mv_st (mv_st (mv_st (mv_st M 29 (mv_up (M 29) t a)) 28 (mv_up (M 28) 1 ((t + 1 : Nat) : Int))) 29 (mv_up (mv_up (M 29) t a) (t + 1) b)) 28 (mv_up (mv_up (M 28) 1 ((t + 1 : Nat) : Int)) 1 ((t + 2 : Nat) : Int))) 29 (mv_up (mv_up (mv_up (M 29) t a) (t + 1) b) (t + 2) c)) 28 (mv_up (mv_up (mv_up (M 28) 1 ((t + 1 : Nat) : Int)) 1 ((t + 2 : Nat) : Int)) 1 ((t + 3 : Nat) : Int))) 29 (mv_up (mv_up (mv_up (mv_up (M 29) t a) (t + 1) b) (t + 2) c) (t + 3) d)) 28 (mv_up (mv_up (mv_up (mv_up (M 28) 1 ((t + 1 : Nat) : Int)) 1 ((t + 2 : Nat) : Int)) 1 ((t + 3 : Nat) : Int)) 1 ((t + 4 : Nat) : Int)))) rfl ?_
              refine mv_ffW (by decide) ?_
              refine mv_goW 1 (pc' := 125) (ls' := [mv_R 0, mv_I 5, mv_I a, mv_I b, mv_I c, mv_I d, mv_I e, mv_I ((((0 + 1) + 1) + 1) + 1)]) (st' := [mv_I e, mv_R 28]) (M1 := (mv_st (mv_st (mv_st (mv_st (mv_st (mv_st (mv_st (mv_st M 29 (mv_up (M 29) t a)) 28 (mv_up (M 28) 1 ((t + 1 : Nat) : Int))) 29 (mv_up (mv_up (M 29) t a) (t + 1) b)) 28 (mv_up (mv_up (M 28) 1 ((t + 1 : Nat) : Int)) 1 ((t + 2 : Nat) : Int))) 29 (mv_up (mv_up (mv_up (M 29) t a) (t + 1) b) (t + 2) c)) 28 (mv_up (mv_up (mv_up (M 28) 1 ((t + 1 : Nat) : Int)) 1 ((t + 2 : Nat) : Int)) 1 ((t + 3 : Nat) : Int))) 29 (mv_up (mv_up (mv_up (mv_up (M 29) t a) (t + 1) b) (t + 2) c) (t + 3) d)) 28 (mv_up (mv_up (mv_up (mv_up (M 28) 1 ((t + 1 : Nat) : Int)) 1 ((t + 2 : Nat) : Int)) 1 ((t + 3 : Nat) : Int)) 1 ((t + 4 : Nat) : Int)))) rfl ?_
              refine mv_callW (st2 := []) rfl (Or.inl rfl) rfl rfl rfl (sp_app (t := t + 4) (by first | exact ht28 | rfl) (by omega)) (by first | decide | omega) (fun Ma199 hm200 => ?_)
              subst hm200
              refine mv_goW 5 (pc' := if (mv_w (((((0 + 1) + 1) + 1) + 1) + 1)) < 5 then 78 else 134) (ls' := [mv_R 0, mv_I 5, mv_I a, mv_I b, mv_I c, mv_I d, mv_I e, mv_I (mv_w (((((0 + 1) + 1) + 1) + 1) + 1))]) (st' := []) (M1 := (mv_st (mv_st (mv_st (mv_st (mv_st (mv_st (mv_st (mv_st (mv_st (mv_st M 29 (mv_up (M 29) t a)) 28 (mv_up (M 28) 1 ((t + 1 : Nat) : Int))) 29 (mv_up (mv_up (M 29) t a) (t + 1) b)) 28 (mv_up (mv_up (M 28) 1 ((t + 1 : Nat) : Int)) 1 ((t + 2 : Nat) : Int))) 29 (mv_up (mv_up (mv_up (M 29) t a) (t + 1) b) (t + 2) c)) 28 (mv_up (mv_up (mv_up (M 28) 1 ((t + 1 : Nat) : Int)) 1 ((t + 2 : Nat) : Int)) 1 ((t + 3 : Nat) : Int))) 29 (mv_up (mv_up (mv_up (mv_up (M 29) t a) (t + 1) b) (t + 2) c) (t + 3) d)) 28 (mv_up (mv_up (mv_up (mv_up (M 28) 1 ((t + 1 : Nat) : Int)) 1 ((t + 2 : Nat) : Int)) 1 ((t + 3 : Nat) : Int)) 1 ((t + 4 : Nat) : Int))) 29 (mv_up (mv_up (mv_up (mv_up (mv_up (M 29) t a) (t + 1) b) (t + 2) c) (t + 3) d) (t + 4) e)) 28 (mv_up (mv_up (mv_up (mv_up (mv_up (M 28) 1 ((t + 1 : Nat) : Int)) 1 ((t + 2 : Nat) : Int)) 1 ((t + 3 : Nat) : Int)) 1 ((t + 4 : Nat) : Int)) 1 ((t + 5 : Nat) : Int)))) rfl ?_
              rw [show mv_w (((((0 + 1) + 1) + 1) + 1) + 1) = ((((0 + 1) + 1) + 1) + 1) + 1 from mv_w_id (by omega) (by omega)]
              refine mv_ffW (by decide) ?_
              refine mv_goW 3 (pc' := 141) (ls' := [mv_R 0, mv_I 5, mv_I a, mv_I b, mv_I c, mv_I d, mv_I e, mv_I (((((0 + 1) + 1) + 1) + 1) + 1)]) (st' := [mv_I ((t + 5 : Nat) : Int)]) (M1 := (mv_st (mv_st (mv_st (mv_st (mv_st (mv_st (mv_st (mv_st (mv_st (mv_st M 29 (mv_up (M 29) t a)) 28 (mv_up (M 28) 1 ((t + 1 : Nat) : Int))) 29 (mv_up (mv_up (M 29) t a) (t + 1) b)) 28 (mv_up (mv_up (M 28) 1 ((t + 1 : Nat) : Int)) 1 ((t + 2 : Nat) : Int))) 29 (mv_up (mv_up (mv_up (M 29) t a) (t + 1) b) (t + 2) c)) 28 (mv_up (mv_up (mv_up (M 28) 1 ((t + 1 : Nat) : Int)) 1 ((t + 2 : Nat) : Int)) 1 ((t + 3 : Nat) : Int))) 29 (mv_up (mv_up (mv_up (mv_up (M 29) t a) (t + 1) b) (t + 2) c) (t + 3) d)) 28 (mv_up (mv_up (mv_up (mv_up (M 28) 1 ((t + 1 : Nat) : Int)) 1 ((t + 2 : Nat) : Int)) 1 ((t + 3 : Nat) : Int)) 1 ((t + 4 : Nat) : Int))) 29 (mv_up (mv_up (mv_up (mv_up (mv_up (M 29) t a) (t + 1) b) (t + 2) c) (t + 3) d) (t + 4) e)) 28 (mv_up (mv_up (mv_up (mv_up (mv_up (M 28) 1 ((t + 1 : Nat) : Int)) 1 ((t + 2 : Nat) : Int)) 1 ((t + 3 : Nat) : Int)) 1 ((t + 4 : Nat) : Int)) 1 ((t + 5 : Nat) : Int)))) rfl ?_
              refine mv_retW (fun n => rfl) ⟨_, rfl, ?_⟩
              refine mv_goW 3 (pc' := 3) (ls' := [mv_R 100, mv_I 5, mv_I a, mv_I b, mv_I c, mv_I d, mv_I e, mv_U]) (st' := [mv_I 5, mv_I 1, mv_I 5]) (M1 := (mv_st (mv_st (mv_st (mv_st (mv_st (mv_st (mv_st (mv_st (mv_st (mv_st M 29 (mv_up (M 29) t a)) 28 (mv_up (M 28) 1 ((t + 1 : Nat) : Int))) 29 (mv_up (mv_up (M 29) t a) (t + 1) b)) 28 (mv_up (mv_up (M 28) 1 ((t + 1 : Nat) : Int)) 1 ((t + 2 : Nat) : Int))) 29 (mv_up (mv_up (mv_up (M 29) t a) (t + 1) b) (t + 2) c)) 28 (mv_up (mv_up (mv_up (M 28) 1 ((t + 1 : Nat) : Int)) 1 ((t + 2 : Nat) : Int)) 1 ((t + 3 : Nat) : Int))) 29 (mv_up (mv_up (mv_up (mv_up (M 29) t a) (t + 1) b) (t + 2) c) (t + 3) d)) 28 (mv_up (mv_up (mv_up (mv_up (M 28) 1 ((t + 1 : Nat) : Int)) 1 ((t + 2 : Nat) : Int)) 1 ((t + 3 : Nat) : Int)) 1 ((t + 4 : Nat) : Int))) 29 (mv_up (mv_up (mv_up (mv_up (mv_up (M 29) t a) (t + 1) b) (t + 2) c) (t + 3) d) (t + 4) e)) 28 (mv_up (mv_up (mv_up (mv_up (mv_up (M 28) 1 ((t + 1 : Nat) : Int)) 1 ((t + 2 : Nat) : Int)) 1 ((t + 3 : Nat) : Int)) 1 ((t + 4 : Nat) : Int)) 1 ((t + 5 : Nat) : Int)))) rfl ?_
              have ha201 : (1 : Int) ≤ (5 : Int) ∧ (5 : Int) ≤ (5 : Int) := by omega
              refine mv_callPW (st2 := [mv_I 1]) rfl (Or.inr rfl) rfl rfl rfl (sp_min_t ha201) (by first | decide | omega) ?_
              refine mv_goW 1 (pc' := if 1 = 0 then 47 else 9) (ls' := [mv_R 100, mv_I 5, mv_I a, mv_I b, mv_I c, mv_I d, mv_I e, mv_U]) (st' := []) (M1 := (mv_st (mv_st (mv_st (mv_st (mv_st (mv_st (mv_st (mv_st (mv_st (mv_st M 29 (mv_up (M 29) t a)) 28 (mv_up (M 28) 1 ((t + 1 : Nat) : Int))) 29 (mv_up (mv_up (M 29) t a) (t + 1) b)) 28 (mv_up (mv_up (M 28) 1 ((t + 1 : Nat) : Int)) 1 ((t + 2 : Nat) : Int))) 29 (mv_up (mv_up (mv_up (M 29) t a) (t + 1) b) (t + 2) c)) 28 (mv_up (mv_up (mv_up (M 28) 1 ((t + 1 : Nat) : Int)) 1 ((t + 2 : Nat) : Int)) 1 ((t + 3 : Nat) : Int))) 29 (mv_up (mv_up (mv_up (mv_up (M 29) t a) (t + 1) b) (t + 2) c) (t + 3) d)) 28 (mv_up (mv_up (mv_up (mv_up (M 28) 1 ((t + 1 : Nat) : Int)) 1 ((t + 2 : Nat) : Int)) 1 ((t + 3 : Nat) : Int)) 1 ((t + 4 : Nat) : Int))) 29 (mv_up (mv_up (mv_up (mv_up (mv_up (M 29) t a) (t + 1) b) (t + 2) c) (t + 3) d) (t + 4) e)) 28 (mv_up (mv_up (mv_up (mv_up (mv_up (M 28) 1 ((t + 1 : Nat) : Int)) 1 ((t + 2 : Nat) : Int)) 1 ((t + 3 : Nat) : Int)) 1 ((t + 4 : Nat) : Int)) 1 ((t + 5 : Nat) : Int)))) rfl ?_
              refine mv_ffW (by decide) ?_
              refine mv_goW 1 (pc' := 10) (ls' := [mv_R 100, mv_I 5, mv_I a, mv_I b, mv_I c, mv_I d, mv_I e, mv_U]) (st' := [mv_I a]) (M1 := (mv_st (mv_st (mv_st (mv_st (mv_st (mv_st (mv_st (mv_st (mv_st (mv_st M 29 (mv_up (M 29) t a)) 28 (mv_up (M 28) 1 ((t + 1 : Nat) : Int))) 29 (mv_up (mv_up (M 29) t a) (t + 1) b)) 28 (mv_up (mv_up (M 28) 1 ((t + 1 : Nat) : Int)) 1 ((t + 2 : Nat) : Int))) 29 (mv_up (mv_up (mv_up (M 29) t a) (t + 1) b) (t + 2) c)) 28 (mv_up (mv_up (mv_up (M 28) 1 ((t + 1 : Nat) : Int)) 1 ((t + 2 : Nat) : Int)) 1 ((t + 3 : Nat) : Int))) 29 (mv_up (mv_up (mv_up (mv_up (M 29) t a) (t + 1) b) (t + 2) c) (t + 3) d)) 28 (mv_up (mv_up (mv_up (mv_up (M 28) 1 ((t + 1 : Nat) : Int)) 1 ((t + 2 : Nat) : Int)) 1 ((t + 3 : Nat) : Int)) 1 ((t + 4 : Nat) : Int))) 29 (mv_up (mv_up (mv_up (mv_up (mv_up (M 29) t a) (t + 1) b) (t + 2) c) (t + 3) d) (t + 4) e)) 28 (mv_up (mv_up (mv_up (mv_up (mv_up (M 28) 1 ((t + 1 : Nat) : Int)) 1 ((t + 2 : Nat) : Int)) 1 ((t + 3 : Nat) : Int)) 1 ((t + 4 : Nat) : Int)) 1 ((t + 5 : Nat) : Int)))) rfl ?_
              have ha202 : 0 ≤ a ∧ a ≤ 255 := by omega
              refine mv_callPW (st2 := [mv_I 1]) rfl (Or.inr rfl) rfl rfl rfl (sp_mby_t ha202) (by first | decide | omega) ?_
              refine mv_goW 1 (pc' := if 1 = 0 then 47 else 16) (ls' := [mv_R 100, mv_I 5, mv_I a, mv_I b, mv_I c, mv_I d, mv_I e, mv_U]) (st' := []) (M1 := (mv_st (mv_st (mv_st (mv_st (mv_st (mv_st (mv_st (mv_st (mv_st (mv_st M 29 (mv_up (M 29) t a)) 28 (mv_up (M 28) 1 ((t + 1 : Nat) : Int))) 29 (mv_up (mv_up (M 29) t a) (t + 1) b)) 28 (mv_up (mv_up (M 28) 1 ((t + 1 : Nat) : Int)) 1 ((t + 2 : Nat) : Int))) 29 (mv_up (mv_up (mv_up (M 29) t a) (t + 1) b) (t + 2) c)) 28 (mv_up (mv_up (mv_up (M 28) 1 ((t + 1 : Nat) : Int)) 1 ((t + 2 : Nat) : Int)) 1 ((t + 3 : Nat) : Int))) 29 (mv_up (mv_up (mv_up (mv_up (M 29) t a) (t + 1) b) (t + 2) c) (t + 3) d)) 28 (mv_up (mv_up (mv_up (mv_up (M 28) 1 ((t + 1 : Nat) : Int)) 1 ((t + 2 : Nat) : Int)) 1 ((t + 3 : Nat) : Int)) 1 ((t + 4 : Nat) : Int))) 29 (mv_up (mv_up (mv_up (mv_up (mv_up (M 29) t a) (t + 1) b) (t + 2) c) (t + 3) d) (t + 4) e)) 28 (mv_up (mv_up (mv_up (mv_up (mv_up (M 28) 1 ((t + 1 : Nat) : Int)) 1 ((t + 2 : Nat) : Int)) 1 ((t + 3 : Nat) : Int)) 1 ((t + 4 : Nat) : Int)) 1 ((t + 5 : Nat) : Int)))) rfl ?_
              refine mv_ffW (by decide) ?_
              refine mv_goW 1 (pc' := 17) (ls' := [mv_R 100, mv_I 5, mv_I a, mv_I b, mv_I c, mv_I d, mv_I e, mv_U]) (st' := [mv_I b]) (M1 := (mv_st (mv_st (mv_st (mv_st (mv_st (mv_st (mv_st (mv_st (mv_st (mv_st M 29 (mv_up (M 29) t a)) 28 (mv_up (M 28) 1 ((t + 1 : Nat) : Int))) 29 (mv_up (mv_up (M 29) t a) (t + 1) b)) 28 (mv_up (mv_up (M 28) 1 ((t + 1 : Nat) : Int)) 1 ((t + 2 : Nat) : Int))) 29 (mv_up (mv_up (mv_up (M 29) t a) (t + 1) b) (t + 2) c)) 28 (mv_up (mv_up (mv_up (M 28) 1 ((t + 1 : Nat) : Int)) 1 ((t + 2 : Nat) : Int)) 1 ((t + 3 : Nat) : Int))) 29 (mv_up (mv_up (mv_up (mv_up (M 29) t a) (t + 1) b) (t + 2) c) (t + 3) d)) 28 (mv_up (mv_up (mv_up (mv_up (M 28) 1 ((t + 1 : Nat) : Int)) 1 ((t + 2 : Nat) : Int)) 1 ((t + 3 : Nat) : Int)) 1 ((t + 4 : Nat) : Int))) 29 (mv_up (mv_up (mv_up (mv_up (mv_up (M 29) t a) (t + 1) b) (t + 2) c) (t + 3) d) (t + 4) e)) 28 (mv_up (mv_up (mv_up (mv_up (mv_up (M 28) 1 ((t + 1 : Nat) : Int)) 1 ((t + 2 : Nat) : Int)) 1 ((t + 3 : Nat) : Int)) 1 ((t + 4 : Nat) : Int)) 1 ((t + 5 : Nat) : Int)))) rfl ?_
              have ha203 : 0 ≤ b ∧ b ≤ 255 := by omega
              refine mv_callPW (st2 := [mv_I 1]) rfl (Or.inr rfl) rfl rfl rfl (sp_mby_t ha203) (by first | decide | omega) ?_
              refine mv_goW 1 (pc' := if 1 = 0 then 47 else 23) (ls' := [mv_R 100, mv_I 5, mv_I a, mv_I b, mv_I c, mv_I d, mv_I e, mv_U]) (st' := []) (M1 := (mv_st (mv_st (mv_st (mv_st (mv_st (mv_st (mv_st (mv_st (mv_st (mv_st M 29 (mv_up (M 29) t a)) 28 (mv_up (M 28) 1 ((t + 1 : Nat) : Int))) 29 (mv_up (mv_up (M 29) t a) (t + 1) b)) 28 (mv_up (mv_up (M 28) 1 ((t + 1 : Nat) : Int)) 1 ((t + 2 : Nat) : Int))) 29 (mv_up (mv_up (mv_up (M 29) t a) (t + 1) b) (t + 2) c)) 28 (mv_up (mv_up (mv_up (M 28) 1 ((t + 1 : Nat) : Int)) 1 ((t + 2 : Nat) : Int)) 1 ((t + 3 : Nat) : Int))) 29 (mv_up (mv_up (mv_up (mv_up (M 29) t a) (t + 1) b) (t + 2) c) (t + 3) d)) 28 (mv_up (mv_up (mv_up (mv_up (M 28) 1 ((t + 1 : Nat) : Int)) 1 ((t + 2 : Nat) : Int)) 1 ((t + 3 : Nat) : Int)) 1 ((t + 4 : Nat) : Int))) 29 (mv_up (mv_up (mv_up (mv_up (mv_up (M 29) t a) (t + 1) b) (t + 2) c) (t + 3) d) (t + 4) e)) 28 (mv_up (mv_up (mv_up (mv_up (mv_up (M 28) 1 ((t + 1 : Nat) : Int)) 1 ((t + 2 : Nat) : Int)) 1 ((t + 3 : Nat) : Int)) 1 ((t + 4 : Nat) : Int)) 1 ((t + 5 : Nat) : Int)))) rfl ?_
              refine mv_ffW (by decide) ?_
              refine mv_goW 1 (pc' := 25) (ls' := [mv_R 100, mv_I 5, mv_I a, mv_I b, mv_I c, mv_I d, mv_I e, mv_U]) (st' := [mv_I c]) (M1 := (mv_st (mv_st (mv_st (mv_st (mv_st (mv_st (mv_st (mv_st (mv_st (mv_st M 29 (mv_up (M 29) t a)) 28 (mv_up (M 28) 1 ((t + 1 : Nat) : Int))) 29 (mv_up (mv_up (M 29) t a) (t + 1) b)) 28 (mv_up (mv_up (M 28) 1 ((t + 1 : Nat) : Int)) 1 ((t + 2 : Nat) : Int))) 29 (mv_up (mv_up (mv_up (M 29) t a) (t + 1) b) (t + 2) c)) 28 (mv_up (mv_up (mv_up (M 28) 1 ((t + 1 : Nat) : Int)) 1 ((t + 2 : Nat) : Int)) 1 ((t + 3 : Nat) : Int))) 29 (mv_up (mv_up (mv_up (mv_up (M 29) t a) (t + 1) b) (t + 2) c) (t + 3) d)) 28 (mv_up (mv_up (mv_up (mv_up (M 28) 1 ((t + 1 : Nat) : Int)) 1 ((t + 2 : Nat) : Int)) 1 ((t + 3 : Nat) : Int)) 1 ((t + 4 : Nat) : Int))) 29 (mv_up (mv_up (mv_up (mv_up (mv_up (M 29) t a) (t + 1) b) (t + 2) c) (t + 3) d) (t + 4) e)) 28 (mv_up (mv_up (mv_up (mv_up (mv_up (M 28) 1 ((t + 1 : Nat) : Int)) 1 ((t + 2 : Nat) : Int)) 1 ((t + 3 : Nat) : Int)) 1 ((t + 4 : Nat) : Int)) 1 ((t + 5 : Nat) : Int)))) rfl ?_
              have ha204 : 0 ≤ c ∧ c ≤ 255 := by omega
              refine mv_callPW (st2 := [mv_I 1]) rfl (Or.inr rfl) rfl rfl rfl (sp_mby_t ha204) (by first | decide | omega) ?_
              refine mv_goW 1 (pc' := if 1 = 0 then 47 else 31) (ls' := [mv_R 100, mv_I 5, mv_I a, mv_I b, mv_I c, mv_I d, mv_I e, mv_U]) (st' := []) (M1 := (mv_st (mv_st (mv_st (mv_st (mv_st (mv_st (mv_st (mv_st (mv_st (mv_st M 29 (mv_up (M 29) t a)) 28 (mv_up (M 28) 1 ((t + 1 : Nat) : Int))) 29 (mv_up (mv_up (M 29) t a) (t + 1) b)) 28 (mv_up (mv_up (M 28) 1 ((t + 1 : Nat) : Int)) 1 ((t + 2 : Nat) : Int))) 29 (mv_up (mv_up (mv_up (M 29) t a) (t + 1) b) (t + 2) c)) 28 (mv_up (mv_up (mv_up (M 28) 1 ((t + 1 : Nat) : Int)) 1 ((t + 2 : Nat) : Int)) 1 ((t + 3 : Nat) : Int))) 29 (mv_up (mv_up (mv_up (mv_up (M 29) t a) (t + 1) b) (t + 2) c) (t + 3) d)) 28 (mv_up (mv_up (mv_up (mv_up (M 28) 1 ((t + 1 : Nat) : Int)) 1 ((t + 2 : Nat) : Int)) 1 ((t + 3 : Nat) : Int)) 1 ((t + 4 : Nat) : Int))) 29 (mv_up (mv_up (mv_up (mv_up (mv_up (M 29) t a) (t + 1) b) (t + 2) c) (t + 3) d) (t + 4) e)) 28 (mv_up (mv_up (mv_up (mv_up (mv_up (M 28) 1 ((t + 1 : Nat) : Int)) 1 ((t + 2 : Nat) : Int)) 1 ((t + 3 : Nat) : Int)) 1 ((t + 4 : Nat) : Int)) 1 ((t + 5 : Nat) : Int)))) rfl ?_
              refine mv_ffW (by decide) ?_
              refine mv_goW 1 (pc' := 33) (ls' := [mv_R 100, mv_I 5, mv_I a, mv_I b, mv_I c, mv_I d, mv_I e, mv_U]) (st' := [mv_I d]) (M1 := (mv_st (mv_st (mv_st (mv_st (mv_st (mv_st (mv_st (mv_st (mv_st (mv_st M 29 (mv_up (M 29) t a)) 28 (mv_up (M 28) 1 ((t + 1 : Nat) : Int))) 29 (mv_up (mv_up (M 29) t a) (t + 1) b)) 28 (mv_up (mv_up (M 28) 1 ((t + 1 : Nat) : Int)) 1 ((t + 2 : Nat) : Int))) 29 (mv_up (mv_up (mv_up (M 29) t a) (t + 1) b) (t + 2) c)) 28 (mv_up (mv_up (mv_up (M 28) 1 ((t + 1 : Nat) : Int)) 1 ((t + 2 : Nat) : Int)) 1 ((t + 3 : Nat) : Int))) 29 (mv_up (mv_up (mv_up (mv_up (M 29) t a) (t + 1) b) (t + 2) c) (t + 3) d)) 28 (mv_up (mv_up (mv_up (mv_up (M 28) 1 ((t + 1 : Nat) : Int)) 1 ((t + 2 : Nat) : Int)) 1 ((t + 3 : Nat) : Int)) 1 ((t + 4 : Nat) : Int))) 29 (mv_up (mv_up (mv_up (mv_up (mv_up (M 29) t a) (t + 1) b) (t + 2) c) (t + 3) d) (t + 4) e)) 28 (mv_up (mv_up (mv_up (mv_up (mv_up (M 28) 1 ((t + 1 : Nat) : Int)) 1 ((t + 2 : Nat) : Int)) 1 ((t + 3 : Nat) : Int)) 1 ((t + 4 : Nat) : Int)) 1 ((t + 5 : Nat) : Int)))) rfl ?_
              have ha205 : 0 ≤ d ∧ d ≤ 255 := by omega
              refine mv_callPW (st2 := [mv_I 1]) rfl (Or.inr rfl) rfl rfl rfl (sp_mby_t ha205) (by first | decide | omega) ?_
              refine mv_goW 1 (pc' := if 1 = 0 then 47 else 39) (ls' := [mv_R 100, mv_I 5, mv_I a, mv_I b, mv_I c, mv_I d, mv_I e, mv_U]) (st' := []) (M1 := (mv_st (mv_st (mv_st (mv_st (mv_st (mv_st (mv_st (mv_st (mv_st (mv_st M 29 (mv_up (M 29) t a)) 28 (mv_up (M 28) 1 ((t + 1 : Nat) : Int))) 29 (mv_up (mv_up (M 29) t a) (t + 1) b)) 28 (mv_up (mv_up (M 28) 1 ((t + 1 : Nat) : Int)) 1 ((t + 2 : Nat) : Int))) 29 (mv_up (mv_up (mv_up (M 29) t a) (t + 1) b) (t + 2) c)) 28 (mv_up (mv_up (mv_up (M 28) 1 ((t + 1 : Nat) : Int)) 1 ((t + 2 : Nat) : Int)) 1 ((t + 3 : Nat) : Int))) 29 (mv_up (mv_up (mv_up (mv_up (M 29) t a) (t + 1) b) (t + 2) c) (t + 3) d)) 28 (mv_up (mv_up (mv_up (mv_up (M 28) 1 ((t + 1 : Nat) : Int)) 1 ((t + 2 : Nat) : Int)) 1 ((t + 3 : Nat) : Int)) 1 ((t + 4 : Nat) : Int))) 29 (mv_up (mv_up (mv_up (mv_up (mv_up (M 29) t a) (t + 1) b) (t + 2) c) (t + 3) d) (t + 4) e)) 28 (mv_up (mv_up (mv_up (mv_up (mv_up (M 28) 1 ((t + 1 : Nat) : Int)) 1 ((t + 2 : Nat) : Int)) 1 ((t + 3 : Nat) : Int)) 1 ((t + 4 : Nat) : Int)) 1 ((t + 5 : Nat) : Int)))) rfl ?_
              refine mv_ffW (by decide) ?_
              refine mv_goW 1 (pc' := 41) (ls' := [mv_R 100, mv_I 5, mv_I a, mv_I b, mv_I c, mv_I d, mv_I e, mv_U]) (st' := [mv_I e]) (M1 := (mv_st (mv_st (mv_st (mv_st (mv_st (mv_st (mv_st (mv_st (mv_st (mv_st M 29 (mv_up (M 29) t a)) 28 (mv_up (M 28) 1 ((t + 1 : Nat) : Int))) 29 (mv_up (mv_up (M 29) t a) (t + 1) b)) 28 (mv_up (mv_up (M 28) 1 ((t + 1 : Nat) : Int)) 1 ((t + 2 : Nat) : Int))) 29 (mv_up (mv_up (mv_up (M 29) t a) (t + 1) b) (t + 2) c)) 28 (mv_up (mv_up (mv_up (M 28) 1 ((t + 1 : Nat) : Int)) 1 ((t + 2 : Nat) : Int)) 1 ((t + 3 : Nat) : Int))) 29 (mv_up (mv_up (mv_up (mv_up (M 29) t a) (t + 1) b) (t + 2) c) (t + 3) d)) 28 (mv_up (mv_up (mv_up (mv_up (M 28) 1 ((t + 1 : Nat) : Int)) 1 ((t + 2 : Nat) : Int)) 1 ((t + 3 : Nat) : Int)) 1 ((t + 4 : Nat) : Int))) 29 (mv_up (mv_up (mv_up (mv_up (mv_up (M 29) t a) (t + 1) b) (t + 2) c) (t + 3) d) (t + 4) e)) 28 (mv_up (mv_up (mv_up (mv_up (mv_up (M 28) 1 ((t + 1 : Nat) : Int)) 1 ((t + 2 : Nat) : Int)) 1 ((t + 3 : Nat) : Int)) 1 ((t + 4 : Nat) : Int)) 1 ((t + 5 : Nat) : Int)))) rfl ?_
              have ha206 : 0 ≤ e ∧ e ≤ 255 := by omega
              refine mv_callPW (st2 := [mv_I 1]) rfl (Or.inr rfl) rfl rfl rfl (sp_mby_t ha206) (by first | decide | omega) ?_
              refine mv_goW 1 (pc' := if 1 = 0 then 47 else 50) (ls' := [mv_R 100, mv_I 5, mv_I a, mv_I b, mv_I c, mv_I d, mv_I e, mv_U]) (st' := []) (M1 := (mv_st (mv_st (mv_st (mv_st (mv_st (mv_st (mv_st (mv_st (mv_st (mv_st M 29 (mv_up (M 29) t a)) 28 (mv_up (M 28) 1 ((t + 1 : Nat) : Int))) 29 (mv_up (mv_up (M 29) t a) (t + 1) b)) 28 (mv_up (mv_up (M 28) 1 ((t + 1 : Nat) : Int)) 1 ((t + 2 : Nat) : Int))) 29 (mv_up (mv_up (mv_up (M 29) t a) (t + 1) b) (t + 2) c)) 28 (mv_up (mv_up (mv_up (M 28) 1 ((t + 1 : Nat) : Int)) 1 ((t + 2 : Nat) : Int)) 1 ((t + 3 : Nat) : Int))) 29 (mv_up (mv_up (mv_up (mv_up (M 29) t a) (t + 1) b) (t + 2) c) (t + 3) d)) 28 (mv_up (mv_up (mv_up (mv_up (M 28) 1 ((t + 1 : Nat) : Int)) 1 ((t + 2 : Nat) : Int)) 1 ((t + 3 : Nat) : Int)) 1 ((t + 4 : Nat) : Int))) 29 (mv_up (mv_up (mv_up (mv_up (mv_up (M 29) t a) (t + 1) b) (t + 2) c) (t + 3) d) (t + 4) e)) 28 (mv_up (mv_up (mv_up (mv_up (mv_up (M 28) 1 ((t + 1 : Nat) : Int)) 1 ((t + 2 : Nat) : Int)) 1 ((t + 3 : Nat) : Int)) 1 ((t + 4 : Nat) : Int)) 1 ((t + 5 : Nat) : Int)))) rfl ?_
              refine mv_ffW (by decide) ?_
              refine mv_goW 2 (pc' := 54) (ls' := [mv_R 100, mv_I 5, mv_I a, mv_I b, mv_I c, mv_I d, mv_I e, mv_U]) (st' := [mv_I (M 100 9)]) (M1 := (mv_st (mv_st (mv_st (mv_st (mv_st (mv_st (mv_st (mv_st (mv_st (mv_st M 29 (mv_up (M 29) t a)) 28 (mv_up (M 28) 1 ((t + 1 : Nat) : Int))) 29 (mv_up (mv_up (M 29) t a) (t + 1) b)) 28 (mv_up (mv_up (M 28) 1 ((t + 1 : Nat) : Int)) 1 ((t + 2 : Nat) : Int))) 29 (mv_up (mv_up (mv_up (M 29) t a) (t + 1) b) (t + 2) c)) 28 (mv_up (mv_up (mv_up (M 28) 1 ((t + 1 : Nat) : Int)) 1 ((t + 2 : Nat) : Int)) 1 ((t + 3 : Nat) : Int))) 29 (mv_up (mv_up (mv_up (mv_up (M 29) t a) (t + 1) b) (t + 2) c) (t + 3) d)) 28 (mv_up (mv_up (mv_up (mv_up (M 28) 1 ((t + 1 : Nat) : Int)) 1 ((t + 2 : Nat) : Int)) 1 ((t + 3 : Nat) : Int)) 1 ((t + 4 : Nat) : Int))) 29 (mv_up (mv_up (mv_up (mv_up (mv_up (M 29) t a) (t + 1) b) (t + 2) c) (t + 3) d) (t + 4) e)) 28 (mv_up (mv_up (mv_up (mv_up (mv_up (M 28) 1 ((t + 1 : Nat) : Int)) 1 ((t + 2 : Nat) : Int)) 1 ((t + 3 : Nat) : Int)) 1 ((t + 4 : Nat) : Int)) 1 ((t + 5 : Nat) : Int)))) rfl ?_
              rw [show M 100 9 = (t : Int) from by exact htp.2.1]
              refine mv_goW 4 (pc' := if 160 < (mv_w ((t : Int) + 5)) then 62 else 65) (ls' := [mv_R 100, mv_I 5, mv_I a, mv_I b, mv_I c, mv_I d, mv_I e, mv_U]) (st' := []) (M1 := (mv_st (mv_st (mv_st (mv_st (mv_st (mv_st (mv_st (mv_st (mv_st (mv_st M 29 (mv_up (M 29) t a)) 28 (mv_up (M 28) 1 ((t + 1 : Nat) : Int))) 29 (mv_up (mv_up (M 29) t a) (t + 1) b)) 28 (mv_up (mv_up (M 28) 1 ((t + 1 : Nat) : Int)) 1 ((t + 2 : Nat) : Int))) 29 (mv_up (mv_up (mv_up (M 29) t a) (t + 1) b) (t + 2) c)) 28 (mv_up (mv_up (mv_up (M 28) 1 ((t + 1 : Nat) : Int)) 1 ((t + 2 : Nat) : Int)) 1 ((t + 3 : Nat) : Int))) 29 (mv_up (mv_up (mv_up (mv_up (M 29) t a) (t + 1) b) (t + 2) c) (t + 3) d)) 28 (mv_up (mv_up (mv_up (mv_up (M 28) 1 ((t + 1 : Nat) : Int)) 1 ((t + 2 : Nat) : Int)) 1 ((t + 3 : Nat) : Int)) 1 ((t + 4 : Nat) : Int))) 29 (mv_up (mv_up (mv_up (mv_up (mv_up (M 29) t a) (t + 1) b) (t + 2) c) (t + 3) d) (t + 4) e)) 28 (mv_up (mv_up (mv_up (mv_up (mv_up (M 28) 1 ((t + 1 : Nat) : Int)) 1 ((t + 2 : Nat) : Int)) 1 ((t + 3 : Nat) : Int)) 1 ((t + 4 : Nat) : Int)) 1 ((t + 5 : Nat) : Int)))) rfl ?_
              rw [show mv_w ((t : Int) + 5) = (t : Int) + 5 from mv_w_id (by omega) (by omega)]
              refine mv_ffW (by omega) ?_
              refine mv_goW 5 (pc' := if 0 < 5 then 74 else 142) (ls' := [mv_R 100, mv_I 5, mv_I a, mv_I b, mv_I c, mv_I d, mv_I e, mv_I 0]) (st' := []) (M1 := (mv_st (mv_st (mv_st (mv_st (mv_st (mv_st (mv_st (mv_st (mv_st (mv_st M 29 (mv_up (M 29) t a)) 28 (mv_up (M 28) 1 ((t + 1 : Nat) : Int))) 29 (mv_up (mv_up (M 29) t a) (t + 1) b)) 28 (mv_up (mv_up (M 28) 1 ((t + 1 : Nat) : Int)) 1 ((t + 2 : Nat) : Int))) 29 (mv_up (mv_up (mv_up (M 29) t a) (t + 1) b) (t + 2) c)) 28 (mv_up (mv_up (mv_up (M 28) 1 ((t + 1 : Nat) : Int)) 1 ((t + 2 : Nat) : Int)) 1 ((t + 3 : Nat) : Int))) 29 (mv_up (mv_up (mv_up (mv_up (M 29) t a) (t + 1) b) (t + 2) c) (t + 3) d)) 28 (mv_up (mv_up (mv_up (mv_up (M 28) 1 ((t + 1 : Nat) : Int)) 1 ((t + 2 : Nat) : Int)) 1 ((t + 3 : Nat) : Int)) 1 ((t + 4 : Nat) : Int))) 29 (mv_up (mv_up (mv_up (mv_up (mv_up (M 29) t a) (t + 1) b) (t + 2) c) (t + 3) d) (t + 4) e)) 28 (mv_up (mv_up (mv_up (mv_up (mv_up (M 28) 1 ((t + 1 : Nat) : Int)) 1 ((t + 2 : Nat) : Int)) 1 ((t + 3 : Nat) : Int)) 1 ((t + 4 : Nat) : Int)) 1 ((t + 5 : Nat) : Int)))) rfl ?_
              refine mv_ttW (by decide) ?_
              refine mv_goW 4 (pc' := 82) (ls' := [mv_R 100, mv_I 5, mv_I a, mv_I b, mv_I c, mv_I d, mv_I e, mv_I 0]) (st' := [mv_I (M 100 9), mv_R 108]) (M1 := (mv_st (mv_st (mv_st (mv_st (mv_st (mv_st (mv_st (mv_st (mv_st (mv_st M 29 (mv_up (M 29) t a)) 28 (mv_up (M 28) 1 ((t + 1 : Nat) : Int))) 29 (mv_up (mv_up (M 29) t a) (t + 1) b)) 28 (mv_up (mv_up (M 28) 1 ((t + 1 : Nat) : Int)) 1 ((t + 2 : Nat) : Int))) 29 (mv_up (mv_up (mv_up (M 29) t a) (t + 1) b) (t + 2) c)) 28 (mv_up (mv_up (mv_up (M 28) 1 ((t + 1 : Nat) : Int)) 1 ((t + 2 : Nat) : Int)) 1 ((t + 3 : Nat) : Int))) 29 (mv_up (mv_up (mv_up (mv_up (M 29) t a) (t + 1) b) (t + 2) c) (t + 3) d)) 28 (mv_up (mv_up (mv_up (mv_up (M 28) 1 ((t + 1 : Nat) : Int)) 1 ((t + 2 : Nat) : Int)) 1 ((t + 3 : Nat) : Int)) 1 ((t + 4 : Nat) : Int))) 29 (mv_up (mv_up (mv_up (mv_up (mv_up (M 29) t a) (t + 1) b) (t + 2) c) (t + 3) d) (t + 4) e)) 28 (mv_up (mv_up (mv_up (mv_up (mv_up (M 28) 1 ((t + 1 : Nat) : Int)) 1 ((t + 2 : Nat) : Int)) 1 ((t + 3 : Nat) : Int)) 1 ((t + 4 : Nat) : Int)) 1 ((t + 5 : Nat) : Int)))) rfl ?_
              rw [show M 100 9 = (t : Int) from by exact htp.2.1]
              refine mv_goW 2 (pc' := if 0 = 0 then 87 else 91) (ls' := [mv_R 100, mv_I 5, mv_I a, mv_I b, mv_I c, mv_I d, mv_I e, mv_I 0]) (st' := [mv_I (t : Int), mv_R 108]) (M1 := (mv_st (mv_st (mv_st (mv_st (mv_st (mv_st (mv_st (mv_st (mv_st (mv_st M 29 (mv_up (M 29) t a)) 28 (mv_up (M 28) 1 ((t + 1 : Nat) : Int))) 29 (mv_up (mv_up (M 29) t a) (t + 1) b)) 28 (mv_up (mv_up (M 28) 1 ((t + 1 : Nat) : Int)) 1 ((t + 2 : Nat) : Int))) 29 (mv_up (mv_up (mv_up (M 29) t a) (t + 1) b) (t + 2) c)) 28 (mv_up (mv_up (mv_up (M 28) 1 ((t + 1 : Nat) : Int)) 1 ((t + 2 : Nat) : Int)) 1 ((t + 3 : Nat) : Int))) 29 (mv_up (mv_up (mv_up (mv_up (M 29) t a) (t + 1) b) (t + 2) c) (t + 3) d)) 28 (mv_up (mv_up (mv_up (mv_up (M 28) 1 ((t + 1 : Nat) : Int)) 1 ((t + 2 : Nat) : Int)) 1 ((t + 3 : Nat) : Int)) 1 ((t + 4 : Nat) : Int))) 29 (mv_up (mv_up (mv_up (mv_up (mv_up (M 29) t a) (t + 1) b) (t + 2) c) (t + 3) d) (t + 4) e)) 28 (mv_up (mv_up (mv_up (mv_up (mv_up (M 28) 1 ((t + 1 : Nat) : Int)) 1 ((t + 2 : Nat) : Int)) 1 ((t + 3 : Nat) : Int)) 1 ((t + 4 : Nat) : Int)) 1 ((t + 5 : Nat) : Int)))) rfl ?_
              refine mv_ttW (by decide) ?_
              refine mv_goW 3 (pc' := if 0 ≤ (t : Int) ∧ (t : Int) < 160 then 126 else mv_bad) (ls' := [mv_R 100, mv_I 5, mv_I a, mv_I b, mv_I c, mv_I d, mv_I e, mv_I 0]) (st' := []) (M1 := (mv_st (mv_st (mv_st (mv_st (mv_st (mv_st (mv_st (mv_st (mv_st (mv_st (mv_st M 29 (mv_up (M 29) t a)) 28 (mv_up (M 28) 1 ((t + 1 : Nat) : Int))) 29 (mv_up (mv_up (M 29) t a) (t + 1) b)) 28 (mv_up (mv_up (M 28) 1 ((t + 1 : Nat) : Int)) 1 ((t + 2 : Nat) : Int))) 29 (mv_up (mv_up (mv_up (M 29) t a) (t + 1) b) (t + 2) c)) 28 (mv_up (mv_up (mv_up (M 28) 1 ((t + 1 : Nat) : Int)) 1 ((t + 2 : Nat) : Int)) 1 ((t + 3 : Nat) : Int))) 29 (mv_up (mv_up (mv_up (mv_up (M 29) t a) (t + 1) b) (t + 2) c) (t + 3) d)) 28 (mv_up (mv_up (mv_up (mv_up (M 28) 1 ((t + 1 : Nat) : Int)) 1 ((t + 2 : Nat) : Int)) 1 ((t + 3 : Nat) : Int)) 1 ((t + 4 : Nat) : Int))) 29 (mv_up (mv_up (mv_up (mv_up (mv_up (M 29) t a) (t + 1) b) (t + 2) c) (t + 3) d) (t + 4) e)) 28 (mv_up (mv_up (mv_up (mv_up (mv_up (M 28) 1 ((t + 1 : Nat) : Int)) 1 ((t + 2 : Nat) : Int)) 1 ((t + 3 : Nat) : Int)) 1 ((t + 4 : Nat) : Int)) 1 ((t + 5 : Nat) : Int))) 108 (mv_up (M 108) t a))) rfl ?_
              refine mv_ttW (by omega) ?_
              refine mv_goW 3 (pc' := 131) (ls' := [mv_R 100, mv_I 5, mv_I a, mv_I b, mv_I c, mv_I d, mv_I e, mv_I 0]) (st' := [mv_I (M 100 9), mv_R 100]) (M1 := (mv_st (mv_st (mv_st (mv_st (mv_st (mv_st (mv_st (mv_st (mv_st (mv_st (mv_st M 29 (mv_up (M 29) t a)) 28 (mv_up (M 28) 1 ((t + 1 : Nat) : Int))) 29 (mv_up (mv_up (M 29) t a) (t + 1) b)) 28 (mv_up (mv_up (M 28) 1 ((t + 1 : Nat) : Int)) 1 ((t + 2 : Nat) : Int))) 29 (mv_up (mv_up (mv_up (M 29) t a) (t + 1) b) (t + 2) c)) 28 (mv_up (mv_up (mv_up (M 28) 1 ((t + 1 : Nat) : Int)) 1 ((t + 2 : Nat) : Int)) 1 ((t + 3 : Nat) : Int))) 29 (mv_up (mv_up (mv_up (mv_up (M 29) t a) (t + 1) b) (t + 2) c) (t + 3) d)) 28 (mv_up (mv_up (mv_up (mv_up (M 28) 1 ((t + 1 : Nat) : Int)) 1 ((t + 2 : Nat) : Int)) 1 ((t + 3 : Nat) : Int)) 1 ((t + 4 : Nat) : Int))) 29 (mv_up (mv_up (mv_up (mv_up (mv_up (M 29) t a) (t + 1) b) (t + 2) c) (t + 3) d) (t + 4) e)) 28 (mv_up (mv_up (mv_up (mv_up (mv_up (M 28) 1 ((t + 1 : Nat) : Int)) 1 ((t + 2 : Nat) : Int)) 1 ((t + 3 : Nat) : Int)) 1 ((t + 4 : Nat) : Int)) 1 ((t + 5 : Nat) : Int))) 108 (mv_up (M 108) t a))) rfl ?_
              rw [show M 100 9 = (t : Int) from by exact htp.2.1]
              refine mv_goW 2 (pc' := 133) (ls' := [mv_R 100, mv_I 5, mv_I a, mv_I b, mv_I c, mv_I d, mv_I e, mv_I 0]) (st' := [mv_I (mv_w ((t : Int) + 1)), mv_R 100]) (M1 := (mv_st (mv_st (mv_st (mv_st (mv_st (mv_st (mv_st (mv_st (mv_st (mv_st (mv_st M 29 (mv_up (M 29) t a)) 28 (mv_up (M 28) 1 ((t + 1 : Nat) : Int))) 29 (mv_up (mv_up (M 29) t a) (t + 1) b)) 28 (mv_up (mv_up (M 28) 1 ((t + 1 : Nat) : Int)) 1 ((t + 2 : Nat) : Int))) 29 (mv_up (mv_up (mv_up (M 29) t a) (t + 1) b) (t + 2) c)) 28 (mv_up (mv_up (mv_up (M 28) 1 ((t + 1 : Nat) : Int)) 1 ((t + 2 : Nat) : Int)) 1 ((t + 3 : Nat) : Int))) 29 (mv_up (mv_up (mv_up (mv_up (M 29) t a) (t + 1) b) (t + 2) c) (t + 3) d)) 28 (mv_up (mv_up (mv_up (mv_up (M 28) 1 ((t + 1 : Nat) : Int)) 1 ((t + 2 : Nat) : Int)) 1 ((t + 3 : Nat) : Int)) 1 ((t + 4 : Nat) : Int))) 29 (mv_up (mv_up (mv_up (mv_up (mv_up (M 29) t a) (t + 1) b) (t + 2) c) (t + 3) d) (t + 4) e)) 28 (mv_up (mv_up (mv_up (mv_up (mv_up (M 28) 1 ((t + 1 : Nat) : Int)) 1 ((t + 2 : Nat) : Int)) 1 ((t + 3 : Nat) : Int)) 1 ((t + 4 : Nat) : Int)) 1 ((t + 5 : Nat) : Int))) 108 (mv_up (M 108) t a))) rfl ?_
              rw [show mv_w ((t : Int) + 1) = (t : Int) + 1 from mv_w_id (by omega) (by omega)]
              rw [show (t : Int) + 1 = ((t + 1 : Nat) : Int) from by omega]
              refine mv_goW 6 (pc' := if (mv_w (0 + 1)) < 5 then 74 else 142) (ls' := [mv_R 100, mv_I 5, mv_I a, mv_I b, mv_I c, mv_I d, mv_I e, mv_I (mv_w (0 + 1))]) (st' := []) (M1 := (mv_st (mv_st (mv_st (mv_st (mv_st (mv_st (mv_st (mv_st (mv_st (mv_st (mv_st (mv_st M 29 (mv_up (M 29) t a)) 28 (mv_up (M 28) 1 ((t + 1 : Nat) : Int))) 29 (mv_up (mv_up (M 29) t a) (t + 1) b)) 28 (mv_up (mv_up (M 28) 1 ((t + 1 : Nat) : Int)) 1 ((t + 2 : Nat) : Int))) 29 (mv_up (mv_up (mv_up (M 29) t a) (t + 1) b) (t + 2) c)) 28 (mv_up (mv_up (mv_up (M 28) 1 ((t + 1 : Nat) : Int)) 1 ((t + 2 : Nat) : Int)) 1 ((t + 3 : Nat) : Int))) 29 (mv_up (mv_up (mv_up (mv_up (M 29) t a) (t + 1) b) (t + 2) c) (t + 3) d)) 28 (mv_up (mv_up (mv_up (mv_up (M 28) 1 ((t + 1 : Nat) : Int)) 1 ((t + 2 : Nat) : Int)) 1 ((t + 3 : Nat) : Int)) 1 ((t + 4 : Nat) : Int))) 29 (mv_up (mv_up (mv_up (mv_up (mv_up (M 29) t a) (t + 1) b) (t + 2) c) (t + 3) d) (t + 4) e)) 28 (mv_up (mv_up (mv_up (mv_up (mv_up (M 28) 1 ((t + 1 : Nat) : Int)) 1 ((t + 2 : Nat) : Int)) 1 ((t + 3 : Nat) : Int)) 1 ((t + 4 : Nat) : Int)) 1 ((t + 5 : Nat) : Int))) 108 (mv_up (M 108) t a)) 100 (mv_up (M 100) 9 ((t + 1 : Nat) : Int)))) rfl ?_
              rw [show mv_w (0 + 1) = 0 + 1 from mv_w_id (by omega) (by omega)]
              refine mv_ttW (by decide) ?_
              refine mv_goW 6 (pc' := if (0 + 1) = 0 then 87 else 91) (ls' := [mv_R 100, mv_I 5, mv_I a, mv_I b, mv_I c, mv_I d, mv_I e, mv_I (0 + 1)]) (st' := [mv_I ((t + 1 : Nat) : Int), mv_R 108]) (M1 := (mv_st (mv_st (mv_st (mv_st (mv_st (mv_st (mv_st (mv_st (mv_st (mv_st (mv_st (mv_st M 29 (mv_up (M 29) t a)) 28 (mv_up (M 28) 1 ((t + 1 : Nat) : Int))) 29 (mv_up (mv_up (M 29) t a) (t + 1) b)) 28 (mv_up (mv_up (M 28) 1 ((t + 1 : Nat) : Int)) 1 ((t + 2 : Nat) : Int))) 29 (mv_up (mv_up (mv_up (M 29) t a) (t + 1) b) (t + 2) c)) 28 (mv_up (mv_up (mv_up (M 28) 1 ((t + 1 : Nat) : Int)) 1 ((t + 2 : Nat) : Int)) 1 ((t + 3 : Nat) : Int))) 29 (mv_up (mv_up (mv_up (mv_up (M 29) t a) (t + 1) b) (t + 2) c) (t + 3) d)) 28 (mv_up (mv_up (mv_up (mv_up (M 28) 1 ((t + 1 : Nat) : Int)) 1 ((t + 2 : Nat) : Int)) 1 ((t + 3 : Nat) : Int)) 1 ((t + 4 : Nat) : Int))) 29 (mv_up (mv_up (mv_up (mv_up (mv_up (M 29) t a) (t + 1) b) (t + 2) c) (t + 3) d) (t + 4) e)) 28 (mv_up (mv_up (mv_up (mv_up (mv_up (M 28) 1 ((t + 1 : Nat) : Int)) 1 ((t + 2 : Nat) : Int)) 1 ((t + 3 : Nat) : Int)) 1 ((t + 4 : Nat) : Int)) 1 ((t + 5 : Nat) : Int))) 108 (mv_up (M 108) t a)) 100 (mv_up (M 100) 9 ((t + 1 : Nat) : Int)))) rfl ?_
              refine mv_ffW (by decide) ?_
              refine mv_goW 3 (pc' := if (0 + 1) = 1 then 97 else 101) (ls' := [mv_R 100, mv_I 5, mv_I a, mv_I b, mv_I c, mv_I d, mv_I e, mv_I (0 + 1)]) (st' := [mv_I ((t + 1 : Nat) : Int), mv_R 108]) (M1 := (mv_st (mv_st (mv_st (mv_st (mv_st (mv_st (mv_st (mv_st (mv_st (mv_st (mv_st (mv_st M 29 (mv_up (M 29) t a)) 28 (mv_up (M 28) 1 ((t + 1 : Nat) : Int))) 29 (mv_up (mv_up (M 29) t a) (t + 1) b)) 28 (mv_up (mv_up (M 28) 1 ((t + 1 : Nat) : Int)) 1 ((t + 2 : Nat) : Int))) 29 (mv_up (mv_up (mv_up (M 29) t a) (t + 1) b) (t + 2) c)) 28 (mv_up (mv_up (mv_up (M 28) 1 ((t + 1 : Nat) : Int)) 1 ((t + 2 : Nat) : Int)) 1 ((t + 3 : Nat) : Int))) 29 (mv_up (mv_up (mv_up (mv_up (M 29) t a) (t + 1) b) (t + 2) c) (t + 3) d)) 28 (mv_up (mv_up (mv_up (mv_up (M 28) 1 ((t + 1 : Nat) : Int)) 1 ((t + 2 : Nat) : Int)) 1 ((t + 3 : Nat) : Int)) 1 ((t + 4 : Nat) : Int))) 29 (mv_up (mv_up (mv_up (mv_up (mv_up (M 29) t a) (t + 1) b) (t + 2) c) (t + 3) d) (t + 4) e)) 28 (mv_up (mv_up (mv_up (mv_up (mv_up (M 28) 1 ((t + 1 : Nat) : Int)) 1 ((t + 2 : Nat) : Int)) 1 ((t + 3 : Nat) : Int)) 1 ((t + 4 : Nat) : Int)) 1 ((t + 5 : Nat) : Int))) 108 (mv_up (M 108) t a)) 100 (mv_up (M 100) 9 ((t + 1 : Nat) : Int)))) rfl ?_
              refine mv_ttW (by decide) ?_
              refine mv_goW 3 (pc' := if 0 ≤ ((t + 1 : Nat) : Int) ∧ ((t + 1 : Nat) : Int) < 160 then 126 else mv_bad) (ls' := [mv_R 100, mv_I 5, mv_I a, mv_I b, mv_I c, mv_I d, mv_I e, mv_I (0 + 1)]) (st' := []) (M1 := (mv_st (mv_st (mv_st (mv_st (mv_st (mv_st (mv_st (mv_st (mv_st (mv_st (mv_st (mv_st (mv_st M 29 (mv_up (M 29) t a)) 28 (mv_up (M 28) 1 ((t + 1 : Nat) : Int))) 29 (mv_up (mv_up (M 29) t a) (t + 1) b)) 28 (mv_up (mv_up (M 28) 1 ((t + 1 : Nat) : Int)) 1 ((t + 2 : Nat) : Int))) 29 (mv_up (mv_up (mv_up (M 29) t a) (t + 1) b) (t + 2) c)) 28 (mv_up (mv_up (mv_up (M 28) 1 ((t + 1 : Nat) : Int)) 1 ((t + 2 : Nat) : Int)) 1 ((t + 3 : Nat) : Int))) 29 (mv_up (mv_up (mv_up (mv_up (M 29) t a) (t + 1) b) (t + 2) c) (t + 3) d)) 28 (mv_up (mv_up (mv_up (mv_up (M 28) 1 ((t + 1 : Nat) : Int)) 1 ((t + 2 : Nat) : Int)) 1 ((t + 3 : Nat) : Int)) 1 ((t + 4 : Nat) : Int))) 29 (mv_up (mv_up (mv_up (mv_up (mv_up (M 29) t a) (t + 1) b) (t + 2) c) (t + 3) d) (t + 4) e)) 28 (mv_up (mv_up (mv_up (mv_up (mv_up (M 28) 1 ((t + 1 : Nat) : Int)) 1 ((t + 2 : Nat) : Int)) 1 ((t + 3 : Nat) : Int)) 1 ((t + 4 : Nat) : Int)) 1 ((t + 5 : Nat) : Int))) 108 (mv_up (M 108) t a)) 100 (mv_up (M 100) 9 ((t + 1 : Nat) : Int))) 108 (mv_up (mv_up (M 108) t a) (t + 1) b))) rfl ?_
              refine mv_ttW (by omega) ?_
              refine mv_goW 5 (pc' := 133) (ls' := [mv_R 100, mv_I 5, mv_I a, mv_I b, mv_I c, mv_I d, mv_I e, mv_I (0 + 1)]) (st' := [mv_I (mv_w (((t + 1 : Nat) : Int) + 1)), mv_R 100]) (M1 := (mv_st (mv_st (mv_st (mv_st (mv_st (mv_st (mv_st (mv_st (mv_st (mv_st (mv_st (mv_st (mv_st M 29 (mv_up (M 29) t a)) 28 (mv_up (M 28) 1 ((t + 1 : Nat) : Int))) 29 (mv_up (mv_up (M 29) t a) (t + 1) b)) 28 (mv_up (mv_up (M 28) 1 ((t + 1 : Nat) : Int)) 1 ((t + 2 : Nat) : Int))) 29 (mv_up (mv_up (mv_up (M 29) t a) (t + 1) b) (t + 2) c)) 28 (mv_up (mv_up (mv_up (M 28) 1 ((t + 1 : Nat) : Int)) 1 ((t + 2 : Nat) : Int)) 1 ((t + 3 : Nat) : Int))) 29 (mv_up (mv_up (mv_up (mv_up (M 29) t a) (t + 1) b) (t + 2) c) (t + 3) d)) 28 (mv_up (mv_up (mv_up (mv_up (M 28) 1 ((t + 1 : Nat) : Int)) 1 ((t + 2 : Nat) : Int)) 1 ((t + 3 : Nat) : Int)) 1 ((t + 4 : Nat) : Int))) 29 (mv_up (mv_up (mv_up (mv_up (mv_up (M 29) t a) (t + 1) b) (t + 2) c) (t + 3) d) (t + 4) e)) 28 (mv_up (mv_up (mv_up (mv_up (mv_up (M 28) 1 ((t + 1 : Nat) : Int)) 1 ((t + 2 : Nat) : Int)) 1 ((t + 3 : Nat) : Int)) 1 ((t + 4 : Nat) : Int)) 1 ((t + 5 : Nat) : Int))) 108 (mv_up (M 108) t a)) 100 (mv_up (M 100) 9 ((t + 1 : Nat) : Int))) 108 (mv_up (mv_up (M 108) t a) (t + 1) b))) rfl ?_
              rw [show mv_w (((t + 1 : Nat) : Int) + 1) = ((t + 1 : Nat) : Int) + 1 from mv_w_id (by omega) (by omega)]
              rw [show ((t + 1 : Nat) : Int) + 1 = ((t + 2 : Nat) : Int) from by omega]
              refine mv_goW 6 (pc' := if (mv_w ((0 + 1) + 1)) < 5 then 74 else 142) (ls' := [mv_R 100, mv_I 5, mv_I a, mv_I b, mv_I c, mv_I d, mv_I e, mv_I (mv_w ((0 + 1) + 1))]) (st' := []) (M1 := (mv_st (mv_st (mv_st (mv_st (mv_st (mv_st (mv_st (mv_st (mv_st (mv_st (mv_st (mv_st (mv_st (mv_st M 29 (mv_up (M 29) t a)) 28 (mv_up (M 28) 1 ((t + 1 : Nat) : Int))) 29 (mv_up (mv_up (M 29) t a) (t + 1) b)) 28 (mv_up (mv_up (M 28) 1 ((t + 1 : Nat) : Int)) 1 ((t + 2 : Nat) : Int))) 29 (mv_up (mv_up (mv_up (M 29) t a) (t + 1) b) (t + 2) c)) 28 (mv_up (mv_up (mv_up (M 28) 1 ((t + 1 : Nat) : Int)) 1 ((t + 2 : Nat) : Int)) 1 ((t + 3 : Nat) : Int))) 29 (mv_up (mv_up (mv_up (mv_up (M 29) t a) (t + 1) b) (t + 2) c) (t + 3) d)) 28 (mv_up (mv_up (mv_up (mv_up (M 28) 1 ((t + 1 : Nat) : Int)) 1 ((t + 2 : Nat) : Int)) 1 ((t + 3 : Nat) : Int)) 1 ((t + 4 : Nat) : Int))) 29 (mv_up (mv_up (mv_up (mv_up (mv_up (M 29) t a) (t + 1) b) (t + 2) c) (t + 3) d) (t + 4) e)) 28 (mv_up (mv_up (mv_up (mv_up (mv_up (M 28) 1 ((t + 1 : Nat) : Int)) 1 ((t + 2 : Nat) : Int)) 1 ((t + 3 : Nat) : Int)) 1 ((t + 4 : Nat) : Int)) 1 ((t + 5 : Nat) : Int))) 108 (mv_up (M 108) t a)) 100 (mv_up (M 100) 9 ((t + 1 : Nat) : Int))) 108 (mv_up (mv_up (M 108) t a) (t + 1) b)) 100 (mv_up (mv_up (M 100) 9 ((t + 1 : Nat) : Int)) 9 ((t + 2 : Nat) : Int)))) rfl ?_
              rw [show mv_w ((0 + 1) + 1) = (0 + 1) + 1 from mv_w_id (by omega) (by omega)]
              refine mv_ttW (by decide) ?_
              refine mv_goW 6 (pc' := if ((0 + 1) + 1) = 0 then 87 else 91) (ls' := [mv_R 100, mv_I 5, mv_I a, mv_I b, mv_I c, mv_I d, mv_I e, mv_I ((0 + 1) + 1)]) (st' := [mv_I ((t + 2 : Nat) : Int), mv_R 108]) (M1 := (mv_st (mv_st (mv_st (mv_st (mv_st (mv_st (mv_st (mv_st (mv_st (mv_st (mv_st (mv_st (mv_st (mv_st M 29 (mv_up (M 29) t a)) 28 (mv_up (M 28) 1 ((t + 1 : Nat) : Int))) 29 (mv_up (mv_up (M 29) t a) (t + 1) b)) 28 (mv_up (mv_up (M 28) 1 ((t + 1 : Nat) : Int)) 1 ((t + 2 : Nat) : Int))) 29 (mv_up (mv_up (mv_up (M 29) t a) (t + 1) b) (t + 2) c)) 28 (mv_up (mv_up (mv_up (M 28) 1 ((t + 1 : Nat) : Int)) 1 ((t + 2 : Nat) : Int)) 1 ((t + 3 : Nat) : Int))) 29 (mv_up (mv_up (mv_up (mv_up (M 29) t a) (t + 1) b) (t + 2) c) (t + 3) d)) 28 (mv_up (mv_up (mv_up (mv_up (M 28) 1 ((t + 1 : Nat) : Int)) 1 ((t + 2 : Nat) : Int)) 1 ((t + 3 : Nat) : Int)) 1 ((t + 4 : Nat) : Int))) 29 (mv_up (mv_up (mv_up (mv_up (mv_up (M 29) t a) (t + 1) b) (t + 2) c) (t + 3) d) (t + 4) e)) 28 (mv_up (mv_up (mv_up (mv_up (mv_up (M 28) 1 ((t + 1 : Nat) : Int)) 1 ((t + 2 : Nat) : Int)) 1 ((t + 3 : Nat) : Int)) 1 ((t + 4 : Nat) : Int)) 1 ((t + 5 : Nat) : Int))) 108 (mv_up (M 108) t a)) 100 (mv_up (M 100) 9 ((t + 1 : Nat) : Int))) 108 (mv_up (mv_up (M 108) t a) (t + 1) b)) 100 (mv_up (mv_up (M 100) 9 ((t + 1 : Nat) : Int)) 9 ((t + 2 : Nat) : Int)))) rfl ?_
              refine mv_ffW (by decide) ?_
              refine mv_goW 3 (pc' := if ((0 + 1) + 1) = 1 then 97 else 101) (ls' := [mv_R 100, mv_I 5, mv_I a, mv_I b, mv_I c, mv_I d, mv_I e, mv_I ((0 + 1) + 1)]) (st' := [mv_I ((t + 2 : Nat) : Int), mv_R 108]) (M1 := (mv_st (mv_st (mv_st (mv_st (mv_st (mv_st (mv_st (mv_st (mv_st (mv_st (mv_st (mv_st (mv_st (mv_st M 29 (mv_up (M 29) t a)) 28 (mv_up (M 28) 1 ((t + 1 : Nat) : Int))) 29 (mv_up (mv_up (M 29) t a) (t + 1) b)) 28 (mv_up (mv_up (M 28) 1 ((t + 1 : Nat) : Int)) 1 ((t + 2 : Nat) : Int))) 29 (mv_up (mv_up (mv_up (M 29) t a) (t + 1) b) (t + 2) c)) 28 (mv_up (mv_up (mv_up (M 28) 1 ((t + 1 : Nat) : Int)) 1 ((t + 2 : Nat) : Int)) 1 ((t + 3 : Nat) : Int))) 29 (mv_up (mv_up (mv_up (mv_up (M 29) t a) (t + 1) b) (t + 2) c) (t + 3) d)) 28 (mv_up (mv_up (mv_up (mv_up (M 28) 1 ((t + 1 : Nat) : Int)) 1 ((t + 2 : Nat) : Int)) 1 ((t + 3 : Nat) : Int)) 1 ((t + 4 : Nat) : Int))) 29 (mv_up (mv_up (mv_up (mv_up (mv_up (M 29) t a) (t + 1) b) (t + 2) c) (t + 3) d) (t + 4) e)) 28 (mv_up (mv_up (mv_up (mv_up (mv_up (M 28) 1 ((t + 1 : Nat) : Int)) 1 ((t + 2 : Nat) : Int)) 1 ((t + 3 : Nat) : Int)) 1 ((t + 4 : Nat) : Int)) 1 ((t + 5 : Nat) : Int))) 108 (mv_up (M 108) t a)) 100 (mv_up (M 100) 9 ((t + 1 : Nat) : Int))) 108 (mv_up (mv_up (M 108) t a) (t + 1) b)) 100 (mv_up (mv_up (M 100) 9 ((t + 1 : Nat) : Int)) 9 ((t + 2 : Nat) : Int)))) rfl ?_
              refine mv_ffW (by decide) ?_
              refine mv_goW 3 (pc' := if ((0 + 1) + 1) = 2 then 107 else 112) (ls' := [mv_R 100, mv_I 5, mv_I a, mv_I b, mv_I c, mv_I d, mv_I e, mv_I ((0 + 1) + 1)]) (st' := [mv_I ((t + 2 : Nat) : Int), mv_R 108]) (M1 := (mv_st (mv_st (mv_st (mv_st (mv_st (mv_st (mv_st (mv_st (mv_st (mv_st (mv_st (mv_st (mv_st (mv_st M 29 (mv_up (M 29) t a)) 28 (mv_up (M 28) 1 ((t + 1 : Nat) : Int))) 29 (mv_up (mv_up (M 29) t a) (t + 1) b)) 28 (mv_up (mv_up (M 28) 1 ((t + 1 : Nat) : Int)) 1 ((t + 2 : Nat) : Int))) 29 (mv_up (mv_up (mv_up (M 29) t a) (t + 1) b) (t + 2) c)) 28 (mv_up (mv_up (mv_up (M 28) 1 ((t + 1 : Nat) : Int)) 1 ((t + 2 : Nat) : Int)) 1 ((t + 3 : Nat) : Int))) 29 (mv_up (mv_up (mv_up (mv_up (M 29) t a) (t + 1) b) (t + 2) c) (t + 3) d)) 28 (mv_up (mv_up (mv_up (mv_up (M 28) 1 ((t + 1 : Nat) : Int)) 1 ((t + 2 : Nat) : Int)) 1 ((t + 3 : Nat) : Int)) 1 ((t + 4 : Nat) : Int))) 29 (mv_up (mv_up (mv_up (mv_up (mv_up (M 29) t a) (t + 1) b) (t + 2) c) (t + 3) d) (t + 4) e)) 28 (mv_up (mv_up (mv_up (mv_up (mv_up (M 28) 1 ((t + 1 : Nat) : Int)) 1 ((t + 2 : Nat) : Int)) 1 ((t + 3 : Nat) : Int)) 1 ((t + 4 : Nat) : Int)) 1 ((t + 5 : Nat) : Int))) 108 (mv_up (M 108) t a)) 100 (mv_up (M 100) 9 ((t + 1 : Nat) : Int))) 108 (mv_up (mv_up (M 108) t a) (t + 1) b)) 100 (mv_up (mv_up (M 100) 9 ((t + 1 : Nat) : Int)) 9 ((t + 2 : Nat) : Int)))) rfl ?_
              refine mv_ttW (by decide) ?_
              refine mv_goW 3 (pc' := if 0 ≤ ((t + 2 : Nat) : Int) ∧ ((t + 2 : Nat) : Int) < 160 then 126 else mv_bad) (ls' := [mv_R 100, mv_I 5, mv_I a, mv_I b, mv_I c, mv_I d, mv_I e, mv_I ((0 + 1) + 1)]) (st' := []) (M1 := (mv_st (mv_st (mv_st (mv_st (mv_st (mv_st (mv_st (mv_st (mv_st (mv_st (mv_st (mv_st (mv_st (mv_st (mv_st M 29 (mv_up (M 29) t a)) 28 (mv_up (M 28) 1 ((t + 1 : Nat) : Int))) 29 (mv_up (mv_up (M 29) t a) (t + 1) b)) 28 (mv_up (mv_up (M 28) 1 ((t + 1 : Nat) : Int)) 1 ((t + 2 : Nat) : Int))) 29 (mv_up (mv_up (mv_up (M 29) t a) (t + 1) b) (t + 2) c)) 28 (mv_up (mv_up (mv_up (M 28) 1 ((t + 1 : Nat) : Int)) 1 ((t + 2 : Nat) : Int)) 1 ((t + 3 : Nat) : Int))) 29 (mv_up (mv_up (mv_up (mv_up (M 29) t a) (t + 1) b) (t + 2) c) (t + 3) d)) 28 (mv_up (mv_up (mv_up (mv_up (M 28) 1 ((t + 1 : Nat) : Int)) 1 ((t + 2 : Nat) : Int)) 1 ((t + 3 : Nat) : Int)) 1 ((t + 4 : Nat) : Int))) 29 (mv_up (mv_up (mv_up (mv_up (mv_up (M 29) t a) (t + 1) b) (t + 2) c) (t + 3) d) (t + 4) e)) 28 (mv_up (mv_up (mv_up (mv_up (mv_up (M 28) 1 ((t + 1 : Nat) : Int)) 1 ((t + 2 : Nat) : Int)) 1 ((t + 3 : Nat) : Int)) 1 ((t + 4 : Nat) : Int)) 1 ((t + 5 : Nat) : Int))) 108 (mv_up (M 108) t a)) 100 (mv_up (M 100) 9 ((t + 1 : Nat) : Int))) 108 (mv_up (mv_up (M 108) t a) (t + 1) b)) 100 (mv_up (mv_up (M 100) 9 ((t + 1 : Nat) : Int)) 9 ((t + 2 : Nat) : Int))) 108 (mv_up (mv_up (mv_up (M 108) t a) (t + 1) b) (t + 2) c))) rfl ?_
              refine mv_ttW (by omega) ?_
              refine mv_goW 5 (pc' := 133) (ls' := [mv_R 100, mv_I 5, mv_I a, mv_I b, mv_I c, mv_I d, mv_I e, mv_I ((0 + 1) + 1)]) (st' := [mv_I (mv_w (((t + 2 : Nat) : Int) + 1)), mv_R 100]) (M1 := (mv_st (mv_st (mv_st (mv_st (mv_st (mv_st (mv_st (mv_st (mv_st (mv_st (mv_st (mv_st (mv_st (mv_st (mv_st M 29 (mv_up (M 29) t a)) 28 (mv_up (M 28) 1 ((t + 1 : Nat) : Int))) 29 (mv_up (mv_up (M 29) t a) (t + 1) b)) 28 (mv_up (mv_up (M 28) 1 ((t + 1 : Nat) : Int)) 1 ((t + 2 : Nat) : Int))) 29 (mv_up (mv_up (mv_up (M 29) t a) (t + 1) b) (t + 2) c)) 28 (mv_up (mv_up (mv_up (M 28) 1 ((t + 1 : Nat) : Int)) 1 ((t + 2 : Nat) : Int)) 1 ((t + 3 : Nat) : Int))) 29 (mv_up (mv_up (mv_up (mv_up (M 29) t a) (t + 1) b) (t + 2) c) (t + 3) d)) 28 (mv_up (mv_up (mv_up (mv_up (M 28) 1 ((t + 1 : Nat) : Int)) 1 ((t + 2 : Nat) : Int)) 1 ((t + 3 : Nat) : Int)) 1 ((t + 4 : Nat) : Int))) 29 (mv_up (mv_up (mv_up (mv_up (mv_up (M 29) t a) (t + 1) b) (t + 2) c) (t + 3) d) (t + 4) e)) 28 (mv_up (mv_up (mv_up (mv_up (mv_up (M 28) 1 ((t + 1 : Nat) : Int)) 1 ((t + 2 : Nat) : Int)) 1 ((t + 3 : Nat) : Int)) 1 ((t + 4 : Nat) : Int)) 1 ((t + 5 : Nat) : Int))) 108 (mv_up (M 108) t a)) 100 (mv_up (M 100) 9 ((t + 1 : Nat) : Int))) 108 (mv_up (mv_up (M 108) t a) (t + 1) b)) 100 (mv_up (mv_up (M 100) 9 ((t + 1 : Nat) : Int)) 9 ((t + 2 : Nat) : Int))) 108 (mv_up (mv_up (mv_up (M 108) t a) (t + 1) b) (t + 2) c))) rfl ?_
              rw [show mv_w (((t + 2 : Nat) : Int) + 1) = ((t + 2 : Nat) : Int) + 1 from mv_w_id (by omega) (by omega)]
              rw [show ((t + 2 : Nat) : Int) + 1 = ((t + 3 : Nat) : Int) from by omega]
              refine mv_goW 6 (pc' := if (mv_w (((0 + 1) + 1) + 1)) < 5 then 74 else 142) (ls' := [mv_R 100, mv_I 5, mv_I a, mv_I b, mv_I c, mv_I d, mv_I e, mv_I (mv_w (((0 + 1) + 1) + 1))]) (st' := []) (M1 := (mv_st (mv_st (mv_st (mv_st (mv_st (mv_st (mv_st (mv_st (mv_st (mv_st (mv_st (mv_st (mv_st (mv_st (mv_st (mv_st M 29 (mv_up (M 29) t a)) 28 (mv_up (M 28) 1 ((t + 1 : Nat) : Int))) 29 (mv_up (mv_up (M 29) t a) (t + 1) b)) 28 (mv_up (mv_up (M 28) 1 ((t + 1 : Nat) : Int)) 1 ((t + 2 : Nat) : Int))) 29 (mv_up (mv_up (mv_up (M 29) t a) (t + 1) b) (t + 2) c)) 28 (mv_up (mv_up (mv_up (M 28) 1 ((t + 1 : Nat) : Int)) 1 ((t + 2 : Nat) : Int)) 1 ((t + 3 : Nat) : Int))) 29 (mv_up (mv_up (mv_up (mv_up (M 29) t a) (t + 1) b) (t + 2) c) (t + 3) d)) 28 (mv_up (mv_up (mv_up (mv_up (M 28) 1 ((t + 1 : Nat) : Int)) 1 ((t + 2 : Nat) : Int)) 1 ((t + 3 : Nat) : Int)) 1 ((t + 4 : Nat) : Int))) 29 (mv_up (mv_up (mv_up (mv_up (mv_up (M 29) t a) (t + 1) b) (t + 2) c) (t + 3) d) (t + 4) e)) 28 (mv_up (mv_up (mv_up (mv_up (mv_up (M 28) 1 ((t + 1 : Nat) : Int)) 1 ((t + 2 : Nat) : Int)) 1 ((t + 3 : Nat) : Int)) 1 ((t + 4 : Nat) : Int)) 1 ((t + 5 : Nat) : Int))) 108 (mv_up (M 108) t a)) 100 (mv_up (M 100) 9 ((t + 1 : Nat) : Int))) 108 (mv_up (mv_up (M 108) t a) (t + 1) b)) 100 (mv_up (mv_up (M 100) 9 ((t + 1 : Nat) : Int)) 9 ((t + 2 : Nat) : Int))) 108 (mv_up (mv_up (mv_up (M 108) t a) (t + 1) b) (t + 2) c)) 100 (mv_up (mv_up (mv_up (M 100) 9 ((t + 1 : Nat) : Int)) 9 ((t + 2 : Nat) : Int)) 9 ((t + 3 : Nat) : Int)))) rfl ?_
              rw [show mv_w (((0 + 1) + 1) + 1) = ((0 + 1) + 1) + 1 from mv_w_id (by omega) (by omega)]
              refine mv_ttW (by decide) ?_
              refine mv_goW 6 (pc' := if (((0 + 1) + 1) + 1) = 0 then 87 else 91) (ls' := [mv_R 100, mv_I 5, mv_I a, mv_I b, mv_I c, mv_I d, mv_I e, mv_I (((0 + 1) + 1) + 1)]) (st' := [mv_I ((t + 3 : Nat) : Int), mv_R 108]) (M1 := (mv_st (mv_st (mv_st (mv_st (mv_st (mv_st (mv_st (mv_st (mv_st (mv_st (mv_st (mv_st (mv_st (mv_st (mv_st (mv_st M 29 (mv_up (M 29) t a)) 28 (mv_up (M 28) 1 ((t + 1 : Nat) : Int))) 29 (mv_up (mv_up (M 29) t a) (t + 1) b)) 28 (mv_up (mv_up (M 28) 1 ((t + 1 : Nat) : Int)) 1 ((t + 2 : Nat) : Int))) 29 (mv_up (mv_up (mv_up (M 29) t a) (t + 1) b) (t + 2) c)) 28 (mv_up (mv_up (mv_up (M 28) 1 ((t + 1 : Nat) : Int)) 1 ((t + 2 : Nat) : Int)) 1 ((t + 3 : Nat) : Int))) 29 (mv_up (mv_up (mv_up (mv_up (M 29) t a) (t + 1) b) (t + 2) c) (t + 3) d)) 28 (mv_up (mv_up (mv_up (mv_up (M 28) 1 ((t + 1 : Nat) : Int)) 1 ((t + 2 : Nat) : Int)) 1 ((t + 3 : Nat) : Int)) 1 ((t + 4 : Nat) : Int))) 29 (mv_up (mv_up (mv_up (mv_up (mv_up (M 29) t a) (t + 1) b) (t + 2) c) (t + 3) d) (t + 4) e)) 28 (mv_up (mv_up (mv_up (mv_up (mv_up (M 28) 1 ((t + 1 : Nat) : Int)) 1 ((t + 2 : Nat) : Int)) 1 ((t + 3 : Nat) : Int)) 1 ((t + 4 : Nat) : Int)) 1 ((t + 5 : Nat) : Int))) 108 (mv_up (M 108) t a)) 100 (mv_up (M 100) 9 ((t + 1 : Nat) : Int))) 108 (mv_up (mv_up (M 108) t a) (t + 1) b)) 100 (mv_up (mv_up (M 100) 9 ((t + 1 : Nat) : Int)) 9 ((t + 2 : Nat) : Int))) 108 (mv_up (mv_up (mv_up (M 108) t a) (t + 1) b) (t + 2) c)) 100 (mv_up (mv_up (mv_up (M 100) 9 ((t + 1 : Nat) : Int)) 9 ((t + 2 : Nat) : Int)) 9 ((t + 3 : Nat) : Int)))) rfl ?_
              refine mv_ffW (by decide) ?_
              refine mv_goW 3 (pc' := if (((0 + 1) + 1) + 1) = 1 then 97 else 101) (ls' := [mv_R 100, mv_I 5, mv_I a, mv_I b, mv_I c, mv_I d, mv_I e, mv_I (((0 + 1) + 1) + 1)]) (st' := [mv_I ((t + 3 : Nat) : Int), mv_R 108]) (M1 := (mv_st (mv_st (mv_st (mv_st (mv_st (mv_st (mv_st (mv_st (mv_st (mv_st (mv_st (mv_st (mv_st (mv_st (mv_st (mv_st M 29 (mv_up (M 29) t a)) 28 (mv_up (M 28) 1 ((t + 1 : Nat) : Int))) 29 (mv_up (mv_up (M 29) t a) (t + 1) b)) 28 (mv_up (mv_up (M 28) 1 ((t + 1 : Nat) : Int)) 1 ((t + 2 : Nat) : Int))) 29 (mv_up (mv_up (mv_up (M 29) t a) (t + 1) b) (t + 2) c)) 28 (mv_up (mv_up (mv_up (M 28) 1 ((t + 1 : Nat) : Int)) 1 ((t + 2 : Nat) : Int)) 1 ((t + 3 : Nat) : Int))) 29 (mv_up (mv_up (mv_up (mv_up (M 29) t a) (t + 1) b) (t + 2) c) (t + 3) d)) 28 (mv_up (mv_up (mv_up (mv_up (M 28) 1 ((t + 1 : Nat) : Int)) 1 ((t + 2 : Nat) : Int)) 1 ((t + 3 : Nat) : Int)) 1 ((t + 4 : Nat) : Int))) 29 (mv_up (mv_up (mv_up (mv_up (mv_up (M 29) t a) (t + 1) b) (t + 2) c) (t + 3) d) (t + 4) e)) 28 (mv_up (mv_up (mv_up (mv_up (mv_up (M 28) 1 ((t + 1 : Nat) : Int)) 1 ((t + 2 : Nat) : Int)) 1 ((t + 3 : Nat) : Int)) 1 ((t + 4 : Nat) : Int)) 1 ((t + 5 : Nat) : Int))) 108 (mv_up (M 108) t a)) 100 (mv_up (M 100) 9 ((t + 1 : Nat) : Int))) 108 (mv_up (mv_up (M 108) t a) (t + 1) b)) 100 (mv_up (mv_up (M 100) 9 ((t + 1 : Nat) : Int)) 9 ((t + 2 : Nat) : Int))) 108 (mv_up (mv_up (mv_up (M 108) t a) (t + 1) b) (t + 2) c)) 100 (mv_up (mv_up (mv_up (M 100) 9 ((t + 1 : Nat) : Int)) 9 ((t + 2 : Nat) : Int)) 9 ((t + 3 : Nat) : Int)))) rfl ?_
              refine mv_ffW (by decide) ?_
              refine mv_goW 3 (pc' := if (((0 + 1) + 1) + 1) = 2 then 107 else 112) (ls' := [mv_R 100, mv_I 5, mv_I a, mv_I b, mv_I c, mv_I d, mv_I e, mv_I (((0 + 1) + 1) + 1)]) (st' := [mv_I ((t + 3 : Nat) : Int), mv_R 108]) (M1 := (mv_st (mv_st (mv_st (mv_st (mv_st (mv_st (mv_st (mv_st (mv_st (mv_st (mv_st (mv_st (mv_st (mv_st (mv_st (mv_st M 29 (mv_up (M 29) t a)) 28 (mv_up (M 28) 1 ((t + 1 : Nat) : Int))) 29 (mv_up (mv_up (M 29) t a) (t + 1) b)) 28 (mv_up (mv_up (M 28) 1 ((t + 1 : Nat) : Int)) 1 ((t + 2 : Nat) : Int))) 29 (mv_up (mv_up (mv_up (M 29) t a) (t + 1) b) (t + 2) c)) 28 (mv_up (mv_up (mv_up (M 28) 1 ((t + 1 : Nat) : Int)) 1 ((t + 2 : Nat) : Int)) 1 ((t + 3 : Nat) : Int))) 29 (mv_up (mv_up (mv_up (mv_up (M 29) t a) (t + 1) b) (t + 2) c) (t + 3) d)) 28 (mv_up (mv_up (mv_up (mv_up (M 28) 1 ((t + 1 : Nat) : Int)) 1 ((t + 2 : Nat) : Int)) 1 ((t + 3 : Nat) : Int)) 1 ((t + 4 : Nat) : Int))) 29 (mv_up (mv_up (mv_up (mv_up (mv_up (M 29) t a) (t + 1) b) (t + 2) c) (t + 3) d) (t + 4) e)) 28 (mv_up (mv_up (mv_up (mv_up (mv_up (M 28) 1 ((t + 1 : Nat) : Int)) 1 ((t + 2 : Nat) : Int)) 1 ((t + 3 : Nat) : Int)) 1 ((t + 4 : Nat) : Int)) 1 ((t + 5 : Nat) : Int))) 108 (mv_up (M 108) t a)) 100 (mv_up (M 100) 9 ((t + 1 : Nat) : Int))) 108 (mv_up (mv_up (M 108) t a) (t + 1) b)) 100 (mv_up (mv_up (M 100) 9 ((t + 1 : Nat) : Int)) 9 ((t + 2 : Nat) : Int))) 108 (mv_up (mv_up (mv_up (M 108) t a) (t + 1) b) (t + 2) c)) 100 (mv_up (mv_up (mv_up (M 100) 9 ((t + 1 : Nat) : Int)) 9 ((t + 2 : Nat) : Int)) 9 ((t + 3 : Nat) : Int)))) rfl ?_
              refine mv_ffW (by decide) ?_
              refine mv_goW 3 (pc' := if (((0 + 1) + 1) + 1) = 3 then 118 else 123) (ls' := [mv_R 100, mv_I 5, mv_I a, mv_I b, mv_I c, mv_I d, mv_I e, mv_I (((0 + 1) + 1) + 1)]) (st' := [mv_I ((t + 3 : Nat) : Int), mv_R 108]) (M1 := (mv_st (mv_st (mv_st (mv_st (mv_st (mv_st (mv_st (mv_st (mv_st (mv_st (mv_st (mv_st (mv_st (mv_st (mv_st (mv_st M 29 (mv_up (M 29) t a)) 28 (mv_up (M 28) 1 ((t + 1 : Nat) : Int))) 29 (mv_up (mv_up (M 29) t a) (t + 1) b)) 28 (mv_up (mv_up (M 28) 1 ((t + 1 : Nat) : Int)) 1 ((t + 2 : Nat) : Int))) 29 (mv_up (mv_up (mv_up (M 29) t a) (t + 1) b) (t + 2) c)) 28 (mv_up (mv_up (mv_up (M 28) 1 ((t + 1 : Nat) : Int)) 1 ((t + 2 : Nat) : Int)) 1 ((t + 3 : Nat) : Int))) 29 (mv_up (mv_up (mv_up (mv_up (M 29) t a) (t + 1) b) (t + 2) c) (t + 3) d)) 28 (mv_up (mv_up (mv_up (mv_up (M 28) 1 ((t + 1 : Nat) : Int)) 1 ((t + 2 : Nat) : Int)) 1 ((t + 3 : Nat) : Int)) 1 ((t + 4 : Nat) : Int))) 29 (mv_up (mv_up (mv_up (mv_up (mv_up (M 29) t a) (t + 1) b) (t + 2) c) (t + 3) d) (t + 4) e)) 28 (mv_up (mv_up (mv_up (mv_up (mv_up (M 28) 1 ((t + 1 : Nat) : Int)) 1 ((t + 2 : Nat) : Int)) 1 ((t + 3 : Nat) : Int)) 1 ((t + 4 : Nat) : Int)) 1 ((t + 5 : Nat) : Int))) 108 (mv_up (M 108) t a)) 100 (mv_up (M 100) 9 ((t + 1 : Nat) : Int))) 108 (mv_up (mv_up (M 108) t a) (t + 1) b)) 100 (mv_up (mv_up (M 100) 9 ((t + 1 : Nat) : Int)) 9 ((t + 2 : Nat) : Int))) 108 (mv_up (mv_up (mv_up (M 108) t a) (t + 1) b) (t + 2) c)) 100 (mv_up (mv_up (mv_up (M 100) 9 ((t + 1 : Nat) : Int)) 9 ((t + 2 : Nat) : Int)) 9 ((t + 3 : Nat) : Int)))) rfl ?_
              refine mv_ttW (by decide) ?_
              refine mv_goW 3 (pc' := if 0 ≤ ((t + 3 : Nat) : Int) ∧ ((t + 3 : Nat) : Int) < 160 then 126 else mv_bad) (ls' := [mv_R 100, mv_I 5, mv_I a, mv_I b, mv_I c, mv_I d, mv_I e, mv_I (((0 + 1) + 1) + 1)]) (st' := []) (M1 := (mv_st (mv_st (mv_st (mv_st (mv_st (mv_st (mv_st (mv_st (mv_st (mv_st (mv_st (mv_st (mv_st (mv_st (mv_st (mv_st (mv_st M 29 (mv_up (M 29) t a)) 28 (mv_up (M 28) 1 ((t + 1 : Nat) : Int))) 29 (mv_up (mv_up (M 29) t a) (t + 1) b)) 28 (mv_up (mv_up (M 28) 1 ((t + 1 : Nat) : Int)) 1 ((t + 2 : Nat) : Int))) 29 (mv_up (mv_up (mv_up (M 29) t a) (t + 1) b) (t + 2) c)) 28 (mv_up (mv_up (mv_up (M 28) 1 ((t + 1 : Nat) : Int)) 1 ((t + 2 : Nat) : Int)) 1 ((t + 3 : Nat) : Int))) 29 (mv_up (mv_up (mv_up (mv_up (M 29) t a) (t + 1) b) (t + 2) c) (t + 3) d)) 28 (mv_up (mv_up (mv_up (mv_up (M 28) 1 ((t + 1 : Nat) : Int)) 1 ((t + 2 : Nat) : Int)) 1 ((t + 3 : Nat) : Int)) 1 ((t + 4 : Nat) : Int))) 29 (mv_up (mv_up (mv_up (mv_up (mv_up (M 29) t a) (t + 1) b) (t + 2) c) (t + 3) d) (t + 4) e)) 28 (mv_up (mv_up (mv_up (mv_up (mv_up (M 28) 1 ((t + 1 : Nat) : Int)) 1 ((t + 2 : Nat) : Int)) 1 ((t + 3 : Nat) : Int)) 1 ((t + 4 : Nat) : Int)) 1 ((t + 5 : Nat) : Int))) 108 (mv_up (M 108) t a)) 100 (mv_up (M 100) 9 ((t + 1 : Nat) : Int))) 108 (mv_up (mv_up (M 108) t a) (t + 1) b)) 100 (mv_up (mv_up (M 100) 9 ((t + 1 : Nat) : Int)) 9 ((t + 2 : Nat) : Int))) 108 (mv_up (mv_up (mv_up (M 108) t a) (t + 1) b) (t + 2) c)) 100 (mv_up (mv_up (mv_up (M 100) 9 ((t + 1 : Nat) : Int)) 9 ((t + 2 : Nat) : Int)) 9 ((t + 3 : Nat) : Int))) 108 (mv_up (mv_up (mv_up (mv_up (M 108) t a) (t + 1) b) (t + 2) c) (t + 3) d))) rfl ?_
              refine mv_ttW (by omega) ?_
              refine mv_goW 5 (pc' := 133) (ls' := [mv_R 100, mv_I 5, mv_I a, mv_I b, mv_I c, mv_I d, mv_I e, mv_I (((0 + 1) + 1) + 1)]) (st' := [mv_I (mv_w (((t + 3 : Nat) : Int) + 1)), mv_R 100]) (M1 := (mv_st (mv_st (mv_st (mv_st (mv_st (mv_st (mv_st (mv_st (mv_st (mv_st (mv_st (mv_st (mv_st (mv_st (mv_st (mv_st (mv_st M 29 (mv_up (M 29) t a)) 28 (mv_up (M 28) 1 ((t + 1 : Nat) : Int))) 29 (mv_up (mv_up (M 29) t a) (t + 1) b)) 28 (mv_up (mv_up (M 28) 1 ((t + 1 : Nat) : Int)) 1 ((t + 2 : Nat) : Int))) 29 (mv_up (mv_up (mv_up (M 29) t a) (t + 1) b) (t + 2) c)) 28 (mv_up (mv_up (mv_up (M 28) 1 ((t + 1 : Nat) : Int)) 1 ((t + 2 : Nat) : Int)) 1 ((t + 3 : Nat) : Int))) 29 (mv_up (mv_up (mv_up (mv_up (M 29) t a) (t + 1) b) (t + 2) c) (t + 3) d)) 28 (mv_up (mv_up (mv_up (mv_up (M 28) 1 ((t + 1 : Nat) : Int)) 1 ((t + 2 : Nat) : Int)) 1 ((t + 3 : Nat) : Int)) 1 ((t + 4 : Nat) : Int))) 29 (mv_up (mv_up (mv_up (mv_up (mv_up (M 29) t a) (t + 1) b) (t + 2) c) (t + 3) d) (t + 4) e)) 28 (mv_up (mv_up (mv_up (mv_up (mv_up (M 28) 1 ((t + 1 : Nat) : Int)) 1 ((t + 2 : Nat) : Int)) 1 ((t + 3 : Nat) : Int)) 1 ((t + 4 : Nat) : Int)) 1 ((t + 5 : Nat) : Int))) 108 (mv_up (M 108) t a)) 100 (mv_up (M 100) 9 ((t + 1 : Nat) : Int))) 108 (mv_up (mv_up (M 108) t a) (t + 1) b)) 100 (mv_up (mv_up (M 100) 9 ((t + 1 : Nat) : Int)) 9 ((t + 2 : Nat) : Int))) 108 (mv_up (mv_up (mv_up (M 108) t a) (t + 1) b) (t + 2) c)) 100 (mv_up (mv_up (mv_up (M 100) 9 ((t + 1 : Nat) : Int)) 9 ((t + 2 : Nat) : Int)) 9 ((t + 3 : Nat) : Int))) 108 (mv_up (mv_up (mv_up (mv_up (M 108) t a) (t + 1) b) (t + 2) c) (t + 3) d))) rfl ?_
              rw [show mv_w (((t + 3 : Nat) : Int) + 1) = ((t + 3 : Nat) : Int) + 1 from mv_w_id (by omega) (by omega)]
              rw [show ((t + 3 : Nat) : Int) + 1 = ((t + 4 : Nat) : Int) from by omega]
              refine mv_goW 6 (pc' := if (mv_w ((((0 + 1) + 1) + 1) + 1)) < 5 then 74 else 142) (ls' := [mv_R 100, mv_I 5, mv_I a, mv_I b, mv_I c, mv_I d, mv_I e, mv_I (mv_w ((((0 + 1) + 1) + 1) + 1))]) (st' := []) (M1 := (mv_st (mv_st (mv_st (mv_st (mv_st (mv_st (mv_st (mv_st (mv_st (mv_st (mv_st (mv_st (mv_st (mv_st (mv_st (mv_st (mv_st (mv_st M 29 (mv_up (M 29) t a)) 28 (mv_up (M 28) 1 ((t + 1 : Nat) : Int))) 29 (mv_up (mv_up (M 29) t a) (t + 1) b)) 28 (mv_up (mv_up (M 28) 1 ((t + 1 : Nat) : Int)) 1 ((t + 2 : Nat) : Int))) 29 (mv_up (mv_up (mv_up (M 29) t a) (t + 1) b) (t + 2) c)) 28 (mv_up (mv_up (mv_up (M 28) 1 ((t + 1 : Nat) : Int)) 1 ((t + 2 : Nat) : Int)) 1 ((t + 3 : Nat) : Int))) 29 (mv_up (mv_up (mv_up (mv_up (M 29) t a) (t + 1) b) (t + 2) c) (t + 3) d)) 28 (mv_up (mv_up (mv_up (mv_up (M 28) 1 ((t + 1 : Nat) : Int)) 1 ((t + 2 : Nat) : Int)) 1 ((t + 3 : Nat) : Int)) 1 ((t + 4 : Nat) : Int))) 29 (mv_up (mv_up (mv_up (mv_up (mv_up (M 29) t a) (t + 1) b) (t + 2) c) (t + 3) d) (t + 4) e)) 28 (mv_up (mv_up (mv_up (mv_up (mv_up (M 28) 1 ((t + 1 : Nat) : Int)) 1 ((t + 2 : Nat) : Int)) 1 ((t + 3 : Nat) : Int)) 1 ((t + 4 : Nat) : Int)) 1 ((t + 5 : Nat) : Int))) 108 (mv_up (M 108) t a)) 100 (mv_up (M 100) 9 ((t + 1 : Nat) : Int))) 108 (mv_up (mv_up (M 108) t a) (t + 1) b)) 100 (mv_up (mv_up (M 100) 9 ((t + 1 : Nat) : Int)) 9 ((t + 2 : Nat) : Int))) 108 (mv_up (mv_up (mv_up (M 108) t a) (t + 1) b) (t + 2) c)) 100 (mv_up (mv_up (mv_up (M 100) 9 ((t + 1 : Nat) : Int)) 9 ((t + 2 : Nat) : Int)) 9 ((t + 3 : Nat) : Int))) 108 (mv_up (mv_up (mv_up (mv_up (M 108) t a) (t + 1) b) (t + 2) c) (t + 3) d)) 100 (mv_up (mv_up (mv_up (mv_up (M 100) 9 ((t + 1 : Nat) : Int)) 9 ((t + 2 : Nat) : Int)) 9 ((t + 3 : Nat) : Int)) 9 ((t + 4 : Nat) : Int)))) rfl ?_
              rw [show mv_w ((((0 + 1) + 1) + 1) + 1) = (((0 + 1) + 1) + 1) + 1 from mv_w_id (by omega) (by omega)]
              refine mv_ttW (by decide) ?_
              refine mv_goW 6 (pc' := if ((((0 + 1) + 1) + 1) + 1) = 0 then 87 else 91) (ls' := [mv_R 100, mv_I 5, mv_I a, mv_I b, mv_I c, mv_I d, mv_I e, mv_I ((((0 + 1) + 1) + 1) + 1)]) (st' := [mv_I ((t + 4 : Nat) : Int), mv_R 108]) (M1 := (mv_st (mv_st (mv_st (mv_st (mv_st (mv_st (mv_st (mv_st (mv_st (mv_st (mv_st (mv_st (mv_st (mv_st (mv_st (mv_st (mv_st (mv_st M 29 (mv_up (M 29) t a)) 28 (mv_up (M 28) 1 ((t + 1 : Nat) : Int))) 29 (mv_up (mv_up (M 29) t a) (t + 1) b)) 28 (mv_up (mv_up (M 28) 1 ((t + 1 : Nat) : Int)) 1 ((t + 2 : Nat) : Int))) 29 (mv_up (mv_up (mv_up (M 29) t a) (t + 1) b) (t + 2) c)) 28 (mv_up (mv_up (mv_up (M 28) 1 ((t + 1 : Nat) : Int)) 1 ((t + 2 : Nat) : Int)) 1 ((t + 3 : Nat) : Int))) 29 (mv_up (mv_up (mv_up (mv_up (M 29) t a) (t + 1) b) (t + 2) c) (t + 3) d)) 28 (mv_up (mv_up (mv_up (mv_up (M 28) 1 ((t + 1 : Nat) : Int)) 1 ((t + 2 : Nat) : Int)) 1 ((t + 3 : Nat) : Int)) 1 ((t + 4 : Nat) : Int))) 29 (mv_up (mv_up (mv_up (mv_up (mv_up (M 29) t a) (t + 1) b) (t + 2) c) (t + 3) d) (t + 4) e)) 28 (mv_up (mv_up (mv_up (mv_up (mv_up (M 28) 1 ((t + 1 : Nat) : Int)) 1 ((t + 2 : Nat) : Int)) 1 ((t + 3 : Nat) : Int)) 1 ((t + 4 : Nat) : Int)) 1 ((t + 5 : Nat) : Int))) 108 (mv_up (M 108) t a)) 100 (mv_up (M 100) 9 ((t + 1 : Nat) : Int))) 108 (mv_up (mv_up (M 108) t a) (t + 1) b)) 100 (mv_up (mv_up (M 100) 9 ((t + 1 : Nat) : Int)) 9 ((t + 2 : Nat) : Int))) 108 (mv_up (mv_up (mv_up (M 108) t a) (t + 1) b) (t + 2) c)) 100 (mv_up (mv_up (mv_up (M 100) 9 ((t + 1 : Nat) : Int)) 9 ((t + 2 : Nat) : Int)) 9 ((t + 3 : Nat) : Int))) 108 (mv_up (mv_up (mv_up (mv_up (M 108) t a) (t + 1) b) (t + 2) c) (t + 3) d)) 100 (mv_up (mv_up (mv_up (mv_up (M 100) 9 ((t + 1 : Nat) : Int)) 9 ((t + 2 : Nat) : Int)) 9 ((t + 3 : Nat) : Int)) 9 ((t + 4 : Nat) : Int)))) rfl ?_
              refine mv_ffW (by decide) ?_
              refine mv_goW 3 (pc' := if ((((0 + 1) + 1) + 1) + 1) = 1 then 97 else 101) (ls' := [mv_R 100, mv_I 5, mv_I a, mv_I b, mv_I c, mv_I d, mv_I e, mv_I ((((0 + 1) + 1) + 1) + 1)]) (st' := [mv_I ((t + 4 : Nat) : Int), mv_R 108]) (M1 := (mv_st (mv_st (mv_st (mv_st (mv_st (mv_st (mv_st (mv_st (mv_st (mv_st (mv_st (mv_st (mv_st (mv_st (mv_st (mv_st (mv_st (mv_st M 29 (mv_up (M 29) t a)) 28 (mv_up (M 28) 1 ((t + 1 : Nat) : Int))) 29 (mv_up (mv_up (M 29) t a) (t + 1) b)) 28 (mv_up (mv_up (M 28) 1 ((t + 1 : Nat) : Int)) 1 ((t + 2 : Nat) : Int))) 29 (mv_up (mv_up (mv_up (M 29) t a) (t + 1) b) (t + 2) c)) 28 (mv_up (mv_up (mv_up (M 28) 1 ((t + 1 : Nat) : Int)) 1 ((t + 2 : Nat) : Int)) 1 ((t + 3 : Nat) : Int))) 29 (mv_up (mv_up (mv_up (mv_up (M 29) t a) (t + 1) b) (t + 2) c) (t + 3) d)) 28 (mv_up (mv_up (mv_up (mv_up (M 28) 1 ((t + 1 : Nat) : Int)) 1 ((t + 2 : Nat) : Int)) 1 ((t + 3 : Nat) : Int)) 1 ((t + 4 : Nat) : Int))) 29 (mv_up (mv_up (mv_up (mv_up (mv_up (M 29) t a) (t + 1) b) (t + 2) c) (t + 3) d) (t + 4) e)) 28 (mv_up (mv_up (mv_up (mv_up (mv_up (M 28) 1 ((t + 1 : Nat) : Int)) 1 ((t + 2 : Nat) : Int)) 1 ((t + 3 : Nat) : Int)) 1 ((t + 4 : Nat) : Int)) 1 ((t + 5 : Nat) : Int))) 108 (mv_up (M 108) t a)) 100 (mv_up (M 100) 9 ((t + 1 : Nat) : Int))) 108 (mv_up (mv_up (M 108) t a) (t + 1) b)) 100 (mv_up (mv_up (M 100) 9 ((t + 1 : Nat) : Int)) 9 ((t + 2 : Nat) : Int))) 108 (mv_up (mv_up (mv_up (M 108) t a) (t + 1) b) (t + 2) c)) 100 (mv_up (mv_up (mv_up (M 100) 9 ((t + 1 : Nat) : Int)) 9 ((t + 2 : Nat) : Int)) 9 ((t + 3 : Nat) : Int))) 108 (mv_up (mv_up (mv_up (mv_up (M 108) t a) (t + 1) b) (t + 2) c) (t + 3) d)) 100 (mv_up (mv_up (mv_up (mv_up (M 100) 9 ((t + 1 : Nat) : Int)) 9 ((t + 2 : Nat) : Int)) 9 ((t + 3 : Nat) : Int)) 9 ((t + 4 : Nat) : Int)))) rfl ?_
              refine mv_ffW (by decide) ?_
              refine mv_goW 3 (pc' := if ((((0 + 1) + 1) + 1) + 1) = 2 then 107 else 112) (ls' := [mv_R 100, mv_I 5, mv_I a, mv_I b, mv_I c, mv_I d, mv_I e, mv_I ((((0 + 1) + 1) + 1) + 1)]) (st' := [mv_I ((t + 4 : Nat) : Int), mv_R 108]) (M1 := (mv_st (mv_st (mv_st (mv_st (mv_st (mv_st (mv_st (mv_st (mv_st (mv_st (mv_st (mv_st (mv_st (mv_st (mv_st (mv_st (mv_st (mv_st M 29 (mv_up (M 29) t a)) 28 (mv_up (M 28) 1 ((t + 1 : Nat) : Int))) 29 (mv_up (mv_up (M 29) t a) (t + 1) b)) 28 (mv_up (mv_up (M 28) 1 ((t + 1 : Nat) : Int)) 1 ((t + 2 : Nat) : Int))) 29 (mv_up (mv_up (mv_up (M 29) t a) (t + 1) b) (t + 2) c)) 28 (mv_up (mv_up (mv_up (M 28) 1 ((t + 1 : Nat) : Int)) 1 ((t + 2 : Nat) : Int)) 1 ((t + 3 : Nat) : Int))) 29 (mv_up (mv_up (mv_up (mv_up (M 29) t a) (t + 1) b) (t + 2) c) (t + 3) d)) 28 (mv_up (mv_up (mv_up (mv_up (M 28) 1 ((t + 1 : Nat) : Int)) 1 ((t + 2 : Nat) : Int)) 1 ((t + 3 : Nat) : Int)) 1 ((t + 4 : Nat) : Int))) 29 (mv_up (mv_up (mv_up (mv_up (mv_up (M 29) t a) (t + 1) b) (t + 2) c) (t + 3) d) (t + 4) e)) 28 (mv_up (mv_up (mv_up (mv_up (mv_up (M 28) 1 ((t + 1 : Nat) : Int)) 1 ((t + 2 : Nat) : Int)) 1 ((t + 3 : Nat) : Int)) 1 ((t + 4 : Nat) : Int)) 1 ((t + 5 : Nat) : Int))) 108 (mv_up (M 108) t a)) 100 (mv_up (M 100) 9 ((t + 1 : Nat) : Int))) 108 (mv_up (mv_up (M 108) t a) (t + 1) b)) 100 (mv_up (mv_up (M 100) 9 ((t + 1 : Nat) : Int)) 9 ((t + 2 : Nat) : Int))) 108 (mv_up (mv_up (mv_up (M 108) t a) (t + 1) b) (t + 2) c)) 100 (mv_up (mv_up (mv_up (M 100) 9 ((t + 1 : Nat) : Int)) 9 ((t + 2 : Nat) : Int)) 9 ((t + 3 : Nat) : Int))) 108 (mv_up (mv_up (mv_up (mv_up (M 108) t a) (t + 1) b) (t + 2) c) (t + 3) d)) 100 (mv_up (mv_up (mv_up (mv_up (M 100) 9 ((t + 1 : Nat) : Int)) 9 ((t + 2 : Nat) : Int)) 9 ((t + 3 : Nat) : Int)) 9 ((t + 4 : Nat) : Int)))) rfl ?_
              refine mv_ffW (by decide) ?_
              refine mv_goW 3 (pc' := if ((((0 + 1) + 1) + 1) + 1) = 3 then 118 else 123) (ls' := [mv_R 100, mv_I 5, mv_I a, mv_I b, mv_I c, mv_I d, mv_I e, mv_I ((((0 + 1) + 1) + 1) + 1)]) (st' := [mv_I ((t + 4 : Nat) : Int), mv_R 108]) (M1 := (mv_st (mv_st (mv_st (mv_st (mv_st (mv_st (mv_st (mv_st (mv_st (mv_st (mv_st (mv_st (mv_st (mv_st (mv_st (mv_st (mv_st (mv_st M 29 (mv_up (M 29) t a)) 28 (mv_up (M 28) 1 ((t + 1 : Nat) : Int))) 29 (mv_up (mv_up (M 29) t a) (t + 1) b)) 28 (mv_up (mv_up (M 28) 1 ((t + 1 : Nat) : Int)) 1 ((t + 2 : Nat) : Int))) 29 (mv_up (mv_up (mv_up (M 29) t a) (t + 1) b) (t + 2) c)) 28 (mv_up (mv_up (mv_up (M 28) 1 ((t + 1 : Nat) : Int)) 1 ((t + 2 : Nat) : Int)) 1 ((t + 3 : Nat) : Int))) 29 (mv_up (mv_up (mv_up (mv_up (M 29) t a) (t + 1) b) (t + 2) c) (t + 3) d)) 28 (mv_up (mv_up (mv_up (mv_up (M 28) 1 ((t + 1 : Nat) : Int)) 1 ((t + 2 : Nat) : Int)) 1 ((t + 3 : Nat) : Int)) 1 ((t + 4 : Nat) : Int))) 29 (mv_up (mv_up (mv_up (mv_up (mv_up (M 29) t a) (t + 1) b) (t + 2) c) (t + 3) d) (t + 4) e)) 28 (mv_up (mv_up (mv_up (mv_up (mv_up (M 28) 1 ((t + 1 : Nat) : Int)) 1 ((t + 2 : Nat) : Int)) 1 ((t + 3 : Nat) : Int)) 1 ((t + 4 : Nat) : Int)) 1 ((t + 5 : Nat) : Int))) 108 (mv_up (M 108) t a)) 100 (mv_up (M 100) 9 ((t + 1 : Nat) : Int))) 108 (mv_up (mv_up (M 108) t a) (t + 1) b)) 100 (mv_up (mv_up (M 100) 9 ((t + 1 : Nat) : Int)) 9 ((t + 2 : Nat) : Int))) 108 (mv_up (mv_up (mv_up (M 108) t a) (t + 1) b) (t + 2) c)) 100 (mv_up (mv_up (mv_up (M 100) 9 ((t + 1 : Nat) : Int)) 9 ((t + 2 : Nat) : Int)) 9 ((t + 3 : Nat) : Int))) 108 (mv_up (mv_up (mv_up (mv_up (M 108) t a) (t + 1) b) (t + 2) c) (t + 3) d)) 100 (mv_up (mv_up (mv_up (mv_up (M 100) 9 ((t + 1 : Nat) : Int)) 9 ((t + 2 : Nat) : Int)) 9 ((t + 3 : Nat) : Int)) 9 ((t + 4 : Nat) : Int)))) rfl ?_
              refine mv_ffW (by decide) ?_
              refine mv_goW 2 (pc' := if 0 ≤ ((t + 4 : Nat) : Int) ∧ ((t + 4 : Nat) : Int) < 160 then 126 else mv_bad) (ls' := [mv_R 100, mv_I 5, mv_I a, mv_I b, mv_I c, mv_I d, mv_I e, mv_I ((((0 + 1) + 1) + 1) + 1)]) (st' := []) (M1 := (mv_st (mv_st (mv_st (mv_st (mv_st (mv_st (mv_st (mv_st (mv_st (mv_st (mv_st (mv_st (mv_st (mv_st (mv_st (mv_st (mv_st (mv_st (mv_st M 29 (mv_up (M 29) t a)) 28 (mv_up (M 28) 1 ((t + 1 : Nat) : Int))) 29 (mv_up (mv_up (M 29) t a) (t + 1) b)) 28 (mv_up (mv_up (M 28) 1 ((t + 1 : Nat) : Int)) 1 ((t + 2 : Nat) : Int))) 29 (mv_up (mv_up (mv_up (M 29) t a) (t + 1) b) (t + 2) c)) 28 (mv_up (mv_up (mv_up (M 28) 1 ((t + 1 : Nat) : Int)) 1 ((t + 2 : Nat) : Int)) 1 ((t + 3 : Nat) : Int))) 29 (mv_up (mv_up (mv_up (mv_up (M 29) t a) (t + 1) b) (t + 2) c) (t + 3) d)) 28 (mv_up (mv_up (mv_up (mv_up (M 28) 1 ((t + 1 : Nat) : Int)) 1 ((t + 2 : Nat) : Int)) 1 ((t + 3 : Nat) : Int)) 1 ((t + 4 : Nat) : Int))) 29 (mv_up (mv_up (mv_up (mv_up (mv_up (M 29) t a) (t + 1) b) (t + 2) c) (t + 3) d) (t + 4) e)) 28 (mv_up (mv_up (mv_up (mv_up (mv_up (M 28) 1 ((t + 1 : Nat) : Int)) 1 ((t + 2 : Nat) : Int)) 1 ((t + 3 : Nat) : Int)) 1 ((t + 4 : Nat) : Int)) 1 ((t + 5 : Nat) : Int))) 108 (mv_up (M 108) t a)) 100 (mv_up (M 100) 9 ((t + 1 : Nat) : Int))) 108 (mv_up (mv_up (M 108) t a) (t + 1) b)) 100 (mv_up (mv_up (M 100) 9 ((t + 1 : Nat) : Int)) 9 ((t + 2 : Nat) : Int))) 108 (mv_up (mv_up (mv_up (M 108) t a) (t + 1) b) (t + 2) c)) 100 (mv_up (mv_up (mv_up (M 100) 9 ((t + 1 : Nat) : Int)) 9 ((t + 2 : Nat) : Int)) 9 ((t + 3 : Nat) : Int))) 108 (mv_up (mv_up (mv_up (mv_up (M 108) t a) (t + 1) b) (t + 2) c) (t + 3) d)) 100 (mv_up (mv_up (mv_up (mv_up (M 100) 9 ((t + 1 : Nat) : Int)) 9 ((t + 2 : Nat) : Int)) 9 ((t + 3 : Nat) : Int)) 9 ((t + 4 : Nat) : Int))) 108 (mv_up (mv_up (mv_up (mv_up (mv_up (M 108) t a) (t + 1) b) (t + 2) c) (t + 3) d) (t + 4) e))) rfl ?_
              refine mv_ttW (by omega) ?_
              refine mv_goW 5 (pc' := 133) (ls' := [mv_R 100, mv_I 5, mv_I a, mv_I b, mv_I c, mv_I d, mv_I e, mv_I ((((0 + 1) + 1) + 1) + 1)]) (st' := [mv_I (mv_w (((t + 4 : Nat) : Int) + 1)), mv_R 100]) (M1 := (mv_st (mv_st (mv_st (mv_st (mv_st (mv_st (mv_st (mv_st (mv_st (mv_st (mv_st (mv_st (mv_st (mv_st (mv_st (mv_st (mv_st (mv_st (mv_st M 29 (mv_up (M 29) t a)) 28 (mv_up (M 28) 1 ((t + 1 : Nat) : Int))) 29 (mv_up (mv_up (M 29) t a) (t + 1) b)) 28 (mv_up (mv_up (M 28) 1 ((t + 1 : Nat) : Int)) 1 ((t + 2 : Nat) : Int))) 29 (mv_up (mv_up (mv_up (M 29) t a) (t + 1) b) (t + 2) c)) 28 (mv_up (mv_up (mv_up (M 28) 1 ((t + 1 : Nat) : Int)) 1 ((t + 2 : Nat) : Int)) 1 ((t + 3 : Nat) : Int))) 29 (mv_up (mv_up (mv_up (mv_up (M 29) t a) (t + 1) b) (t + 2) c) (t + 3) d)) 28 (mv_up (mv_up (mv_up (mv_up (M 28) 1 ((t + 1 : Nat) : Int)) 1 ((t + 2 : Nat) : Int)) 1 ((t + 3 : Nat) : Int)) 1 ((t + 4 : Nat) : Int))) 29 (mv_up (mv_up (mv_up (mv_up (mv_up (M 29) t a) (t + 1) b) (t + 2) c) (t + 3) d) (t + 4) e)) 28 (mv_up (mv_up (mv_up (mv_up (mv_up (M 28) 1 ((t + 1 : Nat) : Int)) 1 ((t + 2 : Nat) : Int)) 1 ((t + 3 : Nat) : Int)) 1 ((t + 4 : Nat) : Int)) 1 ((t + 5 : Nat) : Int))) 108 (mv_up (M 108) t a)) 100 (mv_up (M 100) 9 ((t + 1 : Nat) : Int))) 108 (mv_up (mv_up (M 108) t a) (t + 1) b)) 100 (mv_up (mv_up (M 100) 9 ((t + 1 : Nat) : Int)) 9 ((t + 2 : Nat) : Int))) 108 (mv_up (mv_up (mv_up (M 108) t a) (t + 1) b) (t + 2) c)) 100 (mv_up (mv_up (mv_up (M 100) 9 ((t + 1 : Nat) : Int)) 9 ((t + 2 : Nat) : Int)) 9 ((t + 3 : Nat) : Int))) 108 (mv_up (mv_up (mv_up (mv_up (M 108) t a) (t + 1) b) (t + 2) c) (t + 3) d)) 100 (mv_up (mv_up (mv_up (mv_up (M 100) 9 ((t + 1 : Nat) : Int)) 9 ((t + 2 : Nat) : Int)) 9 ((t + 3 : Nat) : Int)) 9 ((t + 4 : Nat) : Int))) 108 (mv_up (mv_up (mv_up (mv_up (mv_up (M 108) t a) (t + 1) b) (t + 2) c) (t + 3) d) (t + 4) e))) rfl ?_
              rw [show mv_w (((t + 4 : Nat) : Int) + 1) = ((t + 4 : Nat) : Int) + 1 from mv_w_id (by omega) (by omega)]
              rw [show ((t + 4 : Nat) : Int) + 1 = ((t + 5 : Nat) : Int) from by omega]
              refine mv_goW 6 (pc' := if (mv_w (((((0 + 1) + 1) + 1) + 1) + 1)) < 5 then 74 else 142) (ls' := [mv_R 100, mv_I 5, mv_I a, mv_I b, mv_I c, mv_I d, mv_I e, mv_I (mv_w (((((0 + 1) + 1) + 1) + 1) + 1))]) (st' := []) (M1 := (mv_st (mv_st (mv_st (mv_st (mv_st (mv_st (mv_st (mv_st (mv_st (mv_st (mv_st (mv_st (mv_st (mv_st (mv_st (mv_st (mv_st (mv_st (mv_st (mv_st M 29 (mv_up (M 29) t a)) 28 (mv_up (M 28) 1 ((t + 1 : Nat) : Int))) 29 (mv_up (mv_up (M 29) t a) (t + 1) b)) 28 (mv_up (mv_up (M 28) 1 ((t + 1 : Nat) : Int)) 1 ((t + 2 : Nat) : Int))) 29 (mv_up (mv_up (mv_up (M 29) t a) (t + 1) b) (t + 2) c)) 28 (mv_up (mv_up (mv_up (M 28) 1 ((t + 1 : Nat) : Int)) 1 ((t + 2 : Nat) : Int)) 1 ((t + 3 : Nat) : Int))) 29 (mv_up (mv_up (mv_up (mv_up (M 29) t a) (t + 1) b) (t + 2) c) (t + 3) d)) 28 (mv_up (mv_up (mv_up (mv_up (M 28) 1 ((t + 1 : Nat) : Int)) 1 ((t + 2 : Nat) : Int)) 1 ((t + 3 : Nat) : Int)) 1 ((t + 4 : Nat) : Int))) 29 (mv_up (mv_up (mv_up (mv_up (mv_up (M 29) t a) (t + 1) b) (t + 2) c) (t + 3) d) (t + 4) e)) 28 (mv_up (mv_up (mv_up (mv_up (mv_up (M 28) 1 ((t + 1 : Nat) : Int)) 1 ((t + 2 : Nat) : Int)) 1 ((t + 3 : Nat) : Int)) 1 ((t + 4 : Nat) : Int)) 1 ((t + 5 : Nat) : Int))) 108 (mv_up (M 108) t a)) 100 (mv_up (M 100) 9 ((t + 1 : Nat) : Int))) 108 (mv_up (mv_up (M 108) t a) (t + 1) b)) 100 (mv_up (mv_up (M 100) 9 ((t + 1 : Nat) : Int)) 9 ((t + 2 : Nat) : Int))) 108 (mv_up (mv_up (mv_up (M 108) t a) (t + 1) b) (t + 2) c)) 100 (mv_up (mv_up (mv_up (M 100) 9 ((t + 1 : Nat) : Int)) 9 ((t + 2 : Nat) : Int)) 9 ((t + 3 : Nat) : Int))) 108 (mv_up (mv_up (mv_up (mv_up (M 108) t a) (t + 1) b) (t + 2) c) (t + 3) d)) 100 (mv_up (mv_up (mv_up (mv_up (M 100) 9 ((t + 1 : Nat) : Int)) 9 ((t + 2 : Nat) : Int)) 9 ((t + 3 : Nat) : Int)) 9 ((t + 4 : Nat) : Int))) 108 (mv_up (mv_up (mv_up (mv_up (mv_up (M 108) t a) (t + 1) b) (t + 2) c) (t + 3) d) (t + 4) e)) 100 (mv_up (mv_up (mv_up (mv_up (mv_up (M 100) 9 ((t + 1 : Nat) : Int)) 9 ((t + 2 : Nat) : Int)) 9 ((t + 3 : Nat) : Int)) 9 ((t + 4 : Nat) : Int)) 9 ((t + 5 : Nat) : Int)))) rfl ?_
              rw [show mv_w (((((0 + 1) + 1) + 1) + 1) + 1) = ((((0 + 1) + 1) + 1) + 1) + 1 from mv_w_id (by omega) (by omega)]
              refine mv_ffW (by decide) ?_
              refine mv_goW 2 (pc' := 146) (ls' := [mv_R 100, mv_I 5, mv_I a, mv_I b, mv_I c, mv_I d, mv_I e, mv_I (((((0 + 1) + 1) + 1) + 1) + 1)]) (st' := [mv_I ((t + 5 : Nat) : Int)]) (M1 := (mv_st (mv_st (mv_st (mv_st (mv_st (mv_st (mv_st (mv_st (mv_st (mv_st (mv_st (mv_st (mv_st (mv_st (mv_st (mv_st (mv_st (mv_st (mv_st (mv_st M 29 (mv_up (M 29) t a)) 28 (mv_up (M 28) 1 ((t + 1 : Nat) : Int))) 29 (mv_up (mv_up (M 29) t a) (t + 1) b)) 28 (mv_up (mv_up (M 28) 1 ((t + 1 : Nat) : Int)) 1 ((t + 2 : Nat) : Int))) 29 (mv_up (mv_up (mv_up (M 29) t a) (t + 1) b) (t + 2) c)) 28 (mv_up (mv_up (mv_up (M 28) 1 ((t + 1 : Nat) : Int)) 1 ((t + 2 : Nat) : Int)) 1 ((t + 3 : Nat) : Int))) 29 (mv_up (mv_up (mv_up (mv_up (M 29) t a) (t + 1) b) (t + 2) c) (t + 3) d)) 28 (mv_up (mv_up (mv_up (mv_up (M 28) 1 ((t + 1 : Nat) : Int)) 1 ((t + 2 : Nat) : Int)) 1 ((t + 3 : Nat) : Int)) 1 ((t + 4 : Nat) : Int))) 29 (mv_up (mv_up (mv_up (mv_up (mv_up (M 29) t a) (t + 1) b) (t + 2) c) (t + 3) d) (t + 4) e)) 28 (mv_up (mv_up (mv_up (mv_up (mv_up (M 28) 1 ((t + 1 : Nat) : Int)) 1 ((t + 2 : Nat) : Int)) 1 ((t + 3 : Nat) : Int)) 1 ((t + 4 : Nat) : Int)) 1 ((t + 5 : Nat) : Int))) 108 (mv_up (M 108) t a)) 100 (mv_up (M 100) 9 ((t + 1 : Nat) : Int))) 108 (mv_up (mv_up (M 108) t a) (t + 1) b)) 100 (mv_up (mv_up (M 100) 9 ((t + 1 : Nat) : Int)) 9 ((t + 2 : Nat) : Int))) 108 (mv_up (mv_up (mv_up (M 108) t a) (t + 1) b) (t + 2) c)) 100 (mv_up (mv_up (mv_up (M 100) 9 ((t + 1 : Nat) : Int)) 9 ((t + 2 : Nat) : Int)) 9 ((t + 3 : Nat) : Int))) 108 (mv_up (mv_up (mv_up (mv_up (M 108) t a) (t + 1) b) (t + 2) c) (t + 3) d)) 100 (mv_up (mv_up (mv_up (mv_up (M 100) 9 ((t + 1 : Nat) : Int)) 9 ((t + 2 : Nat) : Int)) 9 ((t + 3 : Nat) : Int)) 9 ((t + 4 : Nat) : Int))) 108 (mv_up (mv_up (mv_up (mv_up (mv_up (M 108) t a) (t + 1) b) (t + 2) c) (t + 3) d) (t + 4) e)) 100 (mv_up (mv_up (mv_up (mv_up (mv_up (M 100) 9 ((t + 1 : Nat) : Int)) 9 ((t + 2 : Nat) : Int)) 9 ((t + 3 : Nat) : Int)) 9 ((t + 4 : Nat) : Int)) 9 ((t + 5 : Nat) : Int)))) rfl ?_
              exact mv_retW (fun n => rfl) ⟨congrArg mv_I (by first | with_reducible rfl | omega), sp_fd_end (t2 := t + 5) h (fun i q1 q2 q3 q4 => by simp only [mv_st_n _ _ q1, mv_st_n _ _ q2, mv_st_n _ _ q3, mv_st_n _ _ q4]) rfl rfl (by omega) ⟨rfl, rfl, rfl, rfl, rfl, rfl⟩ (show ∀ j, j < t + 5 → mv_up (mv_up (mv_up (mv_up (mv_up (M 29) t a) (t + 1) b) (t + 2) c) (t + 3) d) (t + 4) e j = mv_up (mv_up (mv_up (mv_up (mv_up (M 108) t a) (t + 1) b) (t + 2) c) (t + 3) d) (t + 4) e j ∧ 0 ≤ mv_up (mv_up (mv_up (mv_up (mv_up (M 29) t a) (t + 1) b) (t + 2) c) (t + 3) d) (t + 4) e j ∧ mv_up (mv_up (mv_up (mv_up (mv_up (M 29) t a) (t + 1) b) (t + 2) c) (t + 3) d) (t + 4) e j ≤ 255 from sp_ub (sp_ub (sp_ub (sp_ub (sp_ub (htp.2.2.2) (by omega)) (by omega)) (by omega)) (by omega)) (by omega))⟩
          · refine mv_callPW (st2 := [mv_I 0]) rfl (Or.inr rfl) rfl rfl rfl (sp_cby_f ha183) (by first | decide | omega) ?_
            refine mv_goW 1 (pc' := if 0 = 0 then 48 else 51) (ls' := [mv_R 0, mv_I 5, mv_I a, mv_I b, mv_I c, mv_I d, mv_I e, mv_U]) (st' := []) (M1 := M) rfl ?_
            refine mv_ttW (by decide) ?_
            refine mv_goW 1 (pc' := 50) (ls' := [mv_R 0, mv_I 5, mv_I a, mv_I b, mv_I c, mv_I d, mv_I e, mv_U]) (st' := [mv_I (-2)]) (M1 := M) rfl ?_
            refine mv_retW (fun n => rfl) ⟨_, rfl, ?_⟩
            refine mv_goW 3 (pc' := 3) (ls' := [mv_R 100, mv_I 5, mv_I a, mv_I b, mv_I c, mv_I d, mv_I e, mv_U]) (st' := [mv_I 5, mv_I 1, mv_I 5]) (M1 := M) rfl ?_
            have ha207 : (1 : Int) ≤ (5 : Int) ∧ (5 : Int) ≤ (5 : Int) := by omega
            refine mv_callPW (st2 := [mv_I 1]) rfl (Or.inr rfl) rfl rfl rfl (sp_min_t ha207) (by first | decide | omega) ?_
            refine mv_goW 1 (pc' := if 1 = 0 then 47 else 9) (ls' := [mv_R 100, mv_I 5, mv_I a, mv_I b, mv_I c, mv_I d, mv_I e, mv_U]) (st' := []) (M1 := M) rfl ?_
            refine mv_ffW (by decide) ?_
            refine mv_goW 1 (pc' := 10) (ls' := [mv_R 100, mv_I 5, mv_I a, mv_I b, mv_I c, mv_I d, mv_I e, mv_U]) (st' := [mv_I a]) (M1 := M) rfl ?_
            have ha208 : 0 ≤ a ∧ a ≤ 255 := by omega
            refine mv_callPW (st2 := [mv_I 1]) rfl (Or.inr rfl) rfl rfl rfl (sp_mby_t ha208) (by first | decide | omega) ?_
            refine mv_goW 1 (pc' := if 1 = 0 then 47 else 16) (ls' := [mv_R 100, mv_I 5, mv_I a, mv_I b, mv_I c, mv_I d, mv_I e, mv_U]) (st' := []) (M1 := M) rfl ?_
            refine mv_ffW (by decide) ?_
            refine mv_goW 1 (pc' := 17) (ls' := [mv_R 100, mv_I 5, mv_I a, mv_I b, mv_I c, mv_I d, mv_I e, mv_U]) (st' := [mv_I b]) (M1 := M) rfl ?_
            have ha209 : 0 ≤ b ∧ b ≤ 255 := by omega
            refine mv_callPW (st2 := [mv_I 1]) rfl (Or.inr rfl) rfl rfl rfl (sp_mby_t ha209) (by first | decide | omega) ?_
            refine mv_goW 1 (pc' := if 1 = 0 then 47 else 23) (ls' := [mv_R 100, mv_I 5, mv_I a, mv_I b, mv_I c, mv_I d, mv_I e, mv_U]) (st' := []) (M1 := M) rfl ?_
            refine mv_ffW (by decide) ?_
            refine mv_goW 1 (pc' := 25) (ls' := [mv_R 100, mv_I 5, mv_I a, mv_I b, mv_I c, mv_I d, mv_I e, mv_U]) (st' := [mv_I c]) (M1 := M) rfl ?_
            have ha210 : 0 ≤ c ∧ c ≤ 255 := by omega
            refine mv_callPW (st2 := [mv_I 1]) rfl (Or.inr rfl) rfl rfl rfl (sp_mby_t ha210) (by first | decide | omega) ?_
            refine mv_goW 1 (pc' := if 1 = 0 then 47 else 31) (ls' := [mv_R 100, mv_I 5, mv_I a, mv_I b, mv_I c, mv_I d, mv_I e, mv_U]) (st' := []) (M1 := M) rfl ?_
            refine mv_ffW (by decide) ?_
            refine mv_goW 1 (pc' := 33) (ls' := [mv_R 100, mv_I 5, mv_I a, mv_I b, mv_I c, mv_I d, mv_I e, mv_U]) (st' := [mv_I d]) (M1 := M) rfl ?_
            have ha211 : 0 ≤ d ∧ d ≤ 255 := by omega
            refine mv_callPW (st2 := [mv_I 1]) rfl (Or.inr rfl) rfl rfl rfl (sp_mby_t ha211) (by first | decide | omega) ?_
            refine mv_goW 1 (pc' := if 1 = 0 then 47 else 39) (ls' := [mv_R 100, mv_I 5, mv_I a, mv_I b, mv_I c, mv_I d, mv_I e, mv_U]) (st' := []) (M1 := M) rfl ?_
            refine mv_ffW (by decide) ?_
            refine mv_goW 1 (pc' := 41) (ls' := [mv_R 100, mv_I 5, mv_I a, mv_I b, mv_I c, mv_I d, mv_I e, mv_U]) (st' := [mv_I e]) (M1 := M) rfl ?_
            have ha212 : ¬ (0 ≤ e ∧ e ≤ 255) := by omega
            refine mv_callPW (st2 := [mv_I 0]) rfl (Or.inr rfl) rfl rfl rfl (sp_mby_f ha212) (by first | decide | omega) ?_
            refine mv_goW 1 (pc' := if 0 = 0 then 47 else 50) (ls' := [mv_R 100, mv_I 5, mv_I a, mv_I b, mv_I c, mv_I d, mv_I e, mv_U]) (st' := []) (M1 := M) rfl ?_
            refine mv_ttW (by decide) ?_
            refine mv_goW 1 (pc' := 49) (ls' := [mv_R 100, mv_I 5, mv_I a, mv_I b, mv_I c, mv_I d, mv_I e, mv_U]) (st' := [mv_I (-2)]) (M1 := M) rfl ?_
            exact mv_retW (fun n => rfl) ⟨congrArg mv_I (by first | with_reducible rfl | omega), hI⟩
        · refine mv_callPW (st2 := [mv_I 0]) rfl (Or.inr rfl) rfl rfl rfl (sp_cby_f ha182) (by first | decide | omega) ?_
          refine mv_goW 1 (pc' := if 0 = 0 then 48 else 40) (ls' := [mv_R 0, mv_I 5, mv_I a, mv_I b, mv_I c, mv_I d, mv_I e, mv_U]) (st' := []) (M1 := M) rfl ?_
          refine mv_ttW (by decide) ?_
          refine mv_goW 1 (pc' := 50) (ls' := [mv_R 0, mv_I 5, mv_I a, mv_I b, mv_I c, mv_I d, mv_I e, mv_U]) (st' := [mv_I (-2)]) (M1 := M) rfl ?_
          refine mv_retW (fun n => rfl) ⟨_, rfl, ?_⟩
          refine mv_goW 3 (pc' := 3) (ls' := [mv_R 100, mv_I 5, mv_I a, mv_I b, mv_I c, mv_I d, mv_I e, mv_U]) (st' := [mv_I 5, mv_I 1, mv_I 5]) (M1 := M) rfl ?_
          have ha213 : (1 : Int) ≤ (5 : Int) ∧ (5 : Int) ≤ (5 : Int) := by omega
          refine mv_callPW (st2 := [mv_I 1]) rfl (Or.inr rfl) rfl rfl rfl (sp_min_t ha213) (by first | decide | omega) ?_
          refine mv_goW 1 (pc' := if 1 = 0 then 47 else 9) (ls' := [mv_R 100, mv_I 5, mv_I a, mv_I b, mv_I c, mv_I d, mv_I e, mv_U]) (st' := []) (M1 := M) rfl ?_
          refine mv_ffW (by decide) ?_
          refine mv_goW 1 (pc' := 10) (ls' := [mv_R 100, mv_I 5, mv_I a, mv_I b, mv_I c, mv_I d, mv_I e, mv_U]) (st' := [mv_I a]) (M1 := M) rfl ?_
          have ha214 : 0 ≤ a ∧ a ≤ 255 := by omega
          refine mv_callPW (st2 := [mv_I 1]) rfl (Or.inr rfl) rfl rfl rfl (sp_mby_t ha214) (by first | decide | omega) ?_
          refine mv_goW 1 (pc' := if 1 = 0 then 47 else 16) (ls' := [mv_R 100, mv_I 5, mv_I a, mv_I b, mv_I c, mv_I d, mv_I e, mv_U]) (st' := []) (M1 := M) rfl ?_
          refine mv_ffW (by decide) ?_
          refine mv_goW 1 (pc' := 17) (ls' := [mv_R 100, mv_I 5, mv_I a, mv_I b, mv_I c, mv_I d, mv_I e, mv_U]) (st' := [mv_I b]) (M1 := M) rfl ?_
          have ha215 : 0 ≤ b ∧ b ≤ 255 := by omega
          refine mv_callPW (st2 := [mv_I 1]) rfl (Or.inr rfl) rfl rfl rfl (sp_mby_t ha215) (by first | decide | omega) ?_
          refine mv_goW 1 (pc' := if 1 = 0 then 47 else 23) (ls' := [mv_R 100, mv_I 5, mv_I a, mv_I b, mv_I c, mv_I d, mv_I e, mv_U]) (st' := []) (M1 := M) rfl ?_
          refine mv_ffW (by decide) ?_
          refine mv_goW 1 (pc' := 25) (ls' := [mv_R 100, mv_I 5, mv_I a, mv_I b, mv_I c, mv_I d, mv_I e, mv_U]) (st' := [mv_I c]) (M1 := M) rfl ?_
          have ha216 : 0 ≤ c ∧ c ≤ 255 := by omega
          refine mv_callPW (st2 := [mv_I 1]) rfl (Or.inr rfl) rfl rfl rfl (sp_mby_t ha216) (by first | decide | omega) ?_
          refine mv_goW 1 (pc' := if 1 = 0 then 47 else 31) (ls' := [mv_R 100, mv_I 5, mv_I a, mv_I b, mv_I c, mv_I d, mv_I e, mv_U]) (st' := []) (M1 := M) rfl ?_
          refine mv_ffW (by decide) ?_
          refine mv_goW 1 (pc' := 33) (ls' := [mv_R 100, mv_I 5, mv_I a, mv_I b, mv_I c, mv_I d, mv_I e, mv_U]) (st' := [mv_I d]) (M1 := M) rfl ?_
          have ha217 : ¬ (0 ≤ d ∧ d ≤ 255) := by omega
          refine mv_callPW (st2 := [mv_I 0]) rfl (Or.inr rfl) rfl rfl rfl (sp_mby_f ha217) (by first | decide | omega) ?_
          refine mv_goW 1 (pc' := if 0 = 0 then 47 else 39) (ls' := [mv_R 100, mv_I 5, mv_I a, mv_I b, mv_I c, mv_I d, mv_I e, mv_U]) (st' := []) (M1 := M) rfl ?_
          refine mv_ttW (by decide) ?_
          refine mv_goW 1 (pc' := 49) (ls' := [mv_R 100, mv_I 5, mv_I a, mv_I b, mv_I c, mv_I d, mv_I e, mv_U]) (st' := [mv_I (-2)]) (M1 := M) rfl ?_
          exact mv_retW (fun n => rfl) ⟨congrArg mv_I (by first | with_reducible rfl | omega), hI⟩
      · refine mv_callPW (st2 := [mv_I 0]) rfl (Or.inr rfl) rfl rfl rfl (sp_cby_f ha181) (by first | decide | omega) ?_
        refine mv_goW 1 (pc' := if 0 = 0 then 48 else 32) (ls' := [mv_R 0, mv_I 5, mv_I a, mv_I b, mv_I c, mv_I d, mv_I e, mv_U]) (st' := []) (M1 := M) rfl ?_
        refine mv_ttW (by decide) ?_
        refine mv_goW 1 (pc' := 50) (ls' := [mv_R 0, mv_I 5, mv_I a, mv_I b, mv_I c, mv_I d, mv_I e, mv_U]) (st' := [mv_I (-2)]) (M1 := M) rfl ?_
        refine mv_retW (fun n => rfl) ⟨_, rfl, ?_⟩
        refine mv_goW 3 (pc' := 3) (ls' := [mv_R 100, mv_I 5, mv_I a, mv_I b, mv_I c, mv_I d, mv_I e, mv_U]) (st' := [mv_I 5, mv_I 1, mv_I 5]) (M1 := M) rfl ?_
        have ha218 : (1 : Int) ≤ (5 : Int) ∧ (5 : Int) ≤ (5 : Int) := by omega
        refine mv_callPW (st2 := [mv_I 1]) rfl (Or.inr rfl) rfl rfl rfl (sp_min_t ha218) (by first | decide | omega) ?_
        refine mv_goW 1 (pc' := if 1 = 0 then 47 else 9) (ls' := [mv_R 100, mv_I 5, mv_I a, mv_I b, mv_I c, mv_I d, mv_I e, mv_U]) (st' := []) (M1 := M) rfl ?_
        refine mv_ffW (by decide) ?_
        refine mv_goW 1 (pc' := 10) (ls' := [mv_R 100, mv_I 5, mv_I a, mv_I b, mv_I c, mv_I d, mv_I e, mv_U]) (st' := [mv_I a]) (M1 := M) rfl ?_
        have ha219 : 0 ≤ a ∧ a ≤ 255 := by omega
        refine mv_callPW (st2 := [mv_I 1]) rfl (Or.inr rfl) rfl rfl rfl (sp_mby_t ha219) (by first | decide | omega) ?_
        refine mv_goW 1 (pc' := if 1 = 0 then 47 else 16) (ls' := [mv_R 100, mv_I 5, mv_I a, mv_I b, mv_I c, mv_I d, mv_I e, mv_U]) (st' := []) (M1 := M) rfl ?_
        refine mv_ffW (by decide) ?_
        refine mv_goW 1 (pc' := 17) (ls' := [mv_R 100, mv_I 5, mv_I a, mv_I b, mv_I c, mv_I d, mv_I e, mv_U]) (st' := [mv_I b]) (M1 := M) rfl ?_
        have ha220 : 0 ≤ b ∧ b ≤ 255 := by omega
        refine mv_callPW (st2 := [mv_I 1]) rfl (Or.inr rfl) rfl rfl rfl (sp_mby_t ha220) (by first | decide | omega) ?_
        refine mv_goW 1 (pc' := if 1 = 0 then 47 else 23) (ls' := [mv_R 100, mv_I 5, mv_I a, mv_I b, mv_I c, mv_I d, mv_I e, mv_U]) (st' := []) (M1 := M) rfl ?_
        refine mv_ffW (by decide) ?_
        refine mv_goW 1 (pc' := 25) (ls' := [mv_R 100, mv_I 5, mv_I a, mv_I b, mv_I c, mv_I d, mv_I e, mv_U]) (st' := [mv_I c]) (M1 := M) rfl ?_
        have ha221 : ¬ (0 ≤ c ∧ c ≤ 255) := by omega
        refine mv_callPW (st2 := [mv_I 0]) rfl (Or.inr rfl) rfl rfl rfl (sp_mby_f ha221) (by first | decide | omega) ?_
        refine mv_goW 1 (pc' := if 0 = 0 then 47 else 31) (ls' := [mv_R 100, mv_I 5, mv_I a, mv_I b, mv_I c, mv_I d, mv_I e, mv_U]) (st' := []) (M1 := M) rfl ?_
        refine mv_ttW (by decide) ?_
        refine mv_goW 1 (pc' := 49) (ls' := [mv_R 100, mv_I 5, mv_I a, mv_I b, mv_I c, mv_I d, mv_I e, mv_U]) (st' := [mv_I (-2)]) (M1 := M) rfl ?_
        exact mv_retW (fun n => rfl) ⟨congrArg mv_I (by first | with_reducible rfl | omega), hI⟩
    · refine mv_callPW (st2 := [mv_I 0]) rfl (Or.inr rfl) rfl rfl rfl (sp_cby_f ha180) (by first | decide | omega) ?_
      refine mv_goW 1 (pc' := if 0 = 0 then 48 else 24) (ls' := [mv_R 0, mv_I 5, mv_I a, mv_I b, mv_I c, mv_I d, mv_I e, mv_U]) (st' := []) (M1 := M) rfl ?_
      refine mv_ttW (by decide) ?_
      refine mv_goW 1 (pc' := 50) (ls' := [mv_R 0, mv_I 5, mv_I a, mv_I b, mv_I c, mv_I d, mv_I e, mv_U]) (st' := [mv_I (-2)]) (M1 := M) rfl ?_
      refine mv_retW (fun n => rfl) ⟨_, rfl, ?_⟩
      refine mv_goW 3 (pc' := 3) (ls' := [mv_R 100, mv_I 5, mv_I a, mv_I b, mv_I c, mv_I d, mv_I e, mv_U]) (st' := [mv_I 5, mv_I 1, mv_I 5]) (M1 := M) rfl ?_
      have ha222 : (1 : Int) ≤ (5 : Int) ∧ (5 : Int) ≤ (5 : Int) := by omega
      refine mv_callPW (st2 := [mv_I 1]) rfl (Or.inr rfl) rfl rfl rfl (sp_min_t ha222) (by first | decide | omega) ?_
      refine mv_goW 1 (pc' := if 1 = 0 then 47 else 9) (ls' := [mv_R 100, mv_I 5, mv_I a, mv_I b, mv_I c, mv_I d, mv_I e, mv_U]) (st' := []) (M1 := M) rfl ?_
      refine mv_ffW (by decide) ?_
      refine mv_goW 1 (pc' := 10) (ls' := [mv_R 100, mv_I 5, mv_I a, mv_I b, mv_I c, mv_I d, mv_I e, mv_U]) (st' := [mv_I a]) (M1 := M) rfl ?_
      have ha223 : 0 ≤ a ∧ a ≤ 255 := by omega
      refine mv_callPW (st2 := [mv_I 1]) rfl (Or.inr rfl) rfl rfl rfl (sp_mby_t ha223) (by first | decide | omega) ?_
      refine mv_goW 1 (pc' := if 1 = 0 then 47 else 16) (ls' := [mv_R 100, mv_I 5, mv_I a, mv_I b, mv_I c, mv_I d, mv_I e, mv_U]) (st' := []) (M1 := M) rfl ?_
      refine mv_ffW (by decide) ?_
      refine mv_goW 1 (pc' := 17) (ls' := [mv_R 100, mv_I 5, mv_I a, mv_I b, mv_I c, mv_I d, mv_I e, mv_U]) (st' := [mv_I b]) (M1 := M) rfl ?_
      have ha224 : ¬ (0 ≤ b ∧ b ≤ 255) := by omega
      refine mv_callPW (st2 := [mv_I 0]) rfl (Or.inr rfl) rfl rfl rfl (sp_mby_f ha224) (by first | decide | omega) ?_
      refine mv_goW 1 (pc' := if 0 = 0 then 47 else 23) (ls' := [mv_R 100, mv_I 5, mv_I a, mv_I b, mv_I c, mv_I d, mv_I e, mv_U]) (st' := []) (M1 := M) rfl ?_
      refine mv_ttW (by decide) ?_
      refine mv_goW 1 (pc' := 49) (ls' := [mv_R 100, mv_I 5, mv_I a, mv_I b, mv_I c, mv_I d, mv_I e, mv_U]) (st' := [mv_I (-2)]) (M1 := M) rfl ?_
      exact mv_retW (fun n => rfl) ⟨congrArg mv_I (by first | with_reducible rfl | omega), hI⟩
  · refine mv_callPW (st2 := [mv_I 0]) rfl (Or.inr rfl) rfl rfl rfl (sp_cby_f ha179) (by first | decide | omega) ?_
    refine mv_goW 1 (pc' := if 0 = 0 then 48 else 17) (ls' := [mv_R 0, mv_I 5, mv_I a, mv_I b, mv_I c, mv_I d, mv_I e, mv_U]) (st' := []) (M1 := M) rfl ?_
    refine mv_ttW (by decide) ?_
    refine mv_goW 1 (pc' := 50) (ls' := [mv_R 0, mv_I 5, mv_I a, mv_I b, mv_I c, mv_I d, mv_I e, mv_U]) (st' := [mv_I (-2)]) (M1 := M) rfl ?_
    refine mv_retW (fun n => rfl) ⟨_, rfl, ?_⟩
    refine mv_goW 3 (pc' := 3) (ls' := [mv_R 100, mv_I 5, mv_I a, mv_I b, mv_I c, mv_I d, mv_I e, mv_U]) (st' := [mv_I 5, mv_I 1, mv_I 5]) (M1 := M) rfl ?_
    have ha225 : (1 : Int) ≤ (5 : Int) ∧ (5 : Int) ≤ (5 : Int) := by omega
    refine mv_callPW (st2 := [mv_I 1]) rfl (Or.inr rfl) rfl rfl rfl (sp_min_t ha225) (by first | decide | omega) ?_
    refine mv_goW 1 (pc' := if 1 = 0 then 47 else 9) (ls' := [mv_R 100, mv_I 5, mv_I a, mv_I b, mv_I c, mv_I d, mv_I e, mv_U]) (st' := []) (M1 := M) rfl ?_
    refine mv_ffW (by decide) ?_
    refine mv_goW 1 (pc' := 10) (ls' := [mv_R 100, mv_I 5, mv_I a, mv_I b, mv_I c, mv_I d, mv_I e, mv_U]) (st' := [mv_I a]) (M1 := M) rfl ?_
    have ha226 : ¬ (0 ≤ a ∧ a ≤ 255) := by omega
    refine mv_callPW (st2 := [mv_I 0]) rfl (Or.inr rfl) rfl rfl rfl (sp_mby_f ha226) (by first | decide | omega) ?_
    refine mv_goW 1 (pc' := if 0 = 0 then 47 else 16) (ls' := [mv_R 100, mv_I 5, mv_I a, mv_I b, mv_I c, mv_I d, mv_I e, mv_U]) (st' := []) (M1 := M) rfl ?_
    refine mv_ttW (by decide) ?_
    refine mv_goW 1 (pc' := 49) (ls' := [mv_R 100, mv_I 5, mv_I a, mv_I b, mv_I c, mv_I d, mv_I e, mv_U]) (st' := [mv_I (-2)]) (M1 := M) rfl ?_
    exact mv_retW (fun n => rfl) ⟨congrArg mv_I (by first | with_reducible rfl | omega), hI⟩
theorem sp_k2 (n a b c d e : Int) : sp_call 63 125 [mv_I n, mv_I a, mv_I b, mv_I c, mv_I d, mv_I e] [mv_I n, mv_I a, mv_I b, mv_I c, mv_I d, mv_I e] := by
  by_cases h : 1 ≤ n ∧ n ≤ 5
  · rcases (by omega : n = 1 ∨ n = 2 ∨ n = 3 ∨ n = 4 ∨ n = 5) with q | q | q | q | q <;> subst q
    · exact sp_k2_1 a b c d e
    · exact sp_k2_2 a b c d e
    · exact sp_k2_3 a b c d e
    · exact sp_k2_4 a b c d e
    · exact sp_k2_5 a b c d e
  · exact sp_k2n n a b c d e h
