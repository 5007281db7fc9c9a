/-! asks -/
theorem sp_k5 (a b w : Int) (hw1 : -2147483648 ≤ w) (hw2 : w < 2147483648) : sp_call 66 141 [mv_I a, mv_I b, mv_I w] [mv_I a, mv_I b, mv_I w] := by
  refine sp_mk (lc := [mv_R 0, mv_I a, mv_I b, mv_I w, mv_U, mv_U]) (lm := [mv_R 100, mv_I a, mv_I b, mv_I w, mv_U]) rfl rfl (fun M hI => ?_)
  obtain ⟨V, P, n, B, K, t, h⟩ := hI
  have h' := h
  obtain ⟨⟨hc, hm, ho⟩, ⟨hy, hl, hn1, hn⟩, ⟨hct, hmt, hn7, hn12⟩, _⟩ := h'
  have h8 := sp_ok_s8 ho
  have h9 := sp_ok_s9 ho
  by_cases qa : 0 ≤ a ∧ a ≤ 2
  · by_cases qb : 0 ≤ b ∧ b < V 0 9
    · by_cases qw : 0 ≤ w
      · have td := sp_td qw
        have tm := sp_tm qw
        have tdw : w.tdiv 10 = w / 10 := Int.tdiv_eq_ediv_of_nonneg qw
        by_cases qc : w.tdiv 10 < V 0 8
        · by_cases qk : w.tmod 10 < 4
          · obtain ⟨p, rfl⟩ : ∃ p : Nat, a = (p : Int) := ⟨a.toNat, by omega⟩
            obtain ⟨u, rfl⟩ : ∃ u : Nat, b = (u : Int) := ⟨b.toNat, by omega⟩
            obtain ⟨c, ec⟩ : ∃ c : Nat, w.tdiv 10 = (c : Int) := ⟨(w.tdiv 10).toNat, by omega⟩
            obtain ⟨k, ek⟩ : ∃ k : Nat, w.tmod 10 = (k : Int) := ⟨(w.tmod 10).toNat, by omega⟩
            refine ⟨sp_says V P p u k (V 1 (4 * c + k)), ?_⟩
            refine mv_go' 2 (pc' := if (p : Int) < 0 then 24 else 4) (ls' := [mv_R 0, mv_I (p : Int), mv_I (u : Int), mv_I w, mv_U, mv_U]) (st' := []) (M1 := M) rfl ?_
            refine mv_ff' (by omega) ?_
            refine mv_go' 3 (pc' := if (p : Int) < 3 then 9 else 24) (ls' := [mv_R 0, mv_I (p : Int), mv_I (u : Int), mv_I w, mv_U, mv_U]) (st' := []) (M1 := M) rfl ?_
            refine mv_tt' (by omega) ?_
            refine mv_go' 3 (pc' := 14) (ls' := [mv_R 0, mv_I (p : Int), mv_I (u : Int), mv_I w, mv_U, mv_U]) (st' := [mv_I (u : Int), mv_R 30]) (M1 := M) rfl ?_
            refine mv_callP (st2 := [mv_I 1]) rfl (Or.inl rfl) rfl rfl rfl (sp_cisUncle_t_30 hc ho qb) (by first | decide | omega) ?_
            refine mv_go' 1 (pc' := if 1 = 0 then 24 else 20) (ls' := [mv_R 0, mv_I (p : Int), mv_I (u : Int), mv_I w, mv_U, mv_U]) (st' := []) (M1 := M) rfl ?_
            refine mv_ff' (by decide) ?_
            refine mv_go' 2 (pc' := if w < 0 then 24 else 28) (ls' := [mv_R 0, mv_I (p : Int), mv_I (u : Int), mv_I w, mv_U, mv_U]) (st' := []) (M1 := M) rfl ?_
            refine mv_ff' (by omega) ?_
            refine mv_go' 3 (pc' := if 10 = 0 then mv_bad else 32) (ls' := [mv_R 0, mv_I (p : Int), mv_I (u : Int), mv_I w, mv_U, mv_U]) (st' := [mv_I (mv_w (w.tdiv 10))]) (M1 := M) rfl ?_
            refine mv_ff' (by first | omega | decide) ?_
            refine mv_go' 4 (pc' := if 10 = 0 then mv_bad else 38) (ls' := [mv_R 0, mv_I (p : Int), mv_I (u : Int), mv_I w, mv_I (mv_w (w.tdiv 10)), mv_U]) (st' := [mv_I (mv_w (w.tmod 10))]) (M1 := M) rfl ?_
            refine mv_ff' (by first | omega | decide) ?_
            refine mv_go' 1 (pc' := 40) (ls' := [mv_R 0, mv_I (p : Int), mv_I (u : Int), mv_I w, mv_I (mv_w (w.tdiv 10)), mv_I (mv_w (w.tmod 10))]) (st' := []) (M1 := M) rfl ?_
            rw [show mv_w (w.tdiv 10) = w.tdiv 10 from mv_w_id (by omega) (by omega)]
            rw [show mv_w (w.tmod 10) = w.tmod 10 from mv_w_id (by omega) (by omega)]
            rw [show w.tdiv 10 = (c : Int) from by exact ec]
            refine mv_go' 3 (pc' := 46) (ls' := [mv_R 0, mv_I (p : Int), mv_I (u : Int), mv_I w, mv_I (c : Int), mv_I (w.tmod 10)]) (st' := [mv_I (c : Int), mv_R 30]) (M1 := M) rfl ?_
            rw [show w.tmod 10 = (k : Int) from by exact ek]
            refine mv_callP (st2 := [mv_I 1]) rfl (Or.inl rfl) rfl rfl rfl (sp_cisChild_t_30 hc ho ⟨by omega, by omega⟩) (by first | decide | omega) ?_
            refine mv_go' 1 (pc' := if 1 = 0 then 58 else 52) (ls' := [mv_R 0, mv_I (p : Int), mv_I (u : Int), mv_I w, mv_I (c : Int), mv_I (k : Int)]) (st' := []) (M1 := M) rfl ?_
            refine mv_ff' (by decide) ?_
            refine mv_go' 3 (pc' := if (k : Int) < 4 then 62 else 58) (ls' := [mv_R 0, mv_I (p : Int), mv_I (u : Int), mv_I w, mv_I (c : Int), mv_I (k : Int)]) (st' := []) (M1 := M) rfl ?_
            refine mv_tt' (by omega) ?_
            refine mv_go' 13 (pc' := 84) (ls' := [mv_R 0, mv_I (p : Int), mv_I (u : Int), mv_I w, mv_I (c : Int), mv_I (k : Int)]) (st' := [mv_I (mv_w ((mv_w ((c : Int) * 4)) + (k : Int))), mv_R 31, mv_I (k : Int), mv_I (u : Int), mv_I (p : Int), mv_R 30]) (M1 := M) rfl ?_
            rw [show mv_w ((mv_w ((c : Int) * 4)) + (k : Int)) = ((4 * c + k : Nat) : Int) from by (rw [show mv_w ((c : Int) * 4) = (c : Int) * 4 from mv_w_id (by omega) (by omega), show mv_w (((c : Int) * 4) + (k : Int)) = ((c : Int) * 4) + (k : Int) from mv_w_id (by omega) (by omega)]) <;> omega]
            refine mv_go' 1 (pc' := if 0 ≤ ((4 * c + k : Nat) : Int) ∧ ((4 * c + k : Nat) : Int) < 24 then 85 else mv_bad) (ls' := [mv_R 0, mv_I (p : Int), mv_I (u : Int), mv_I w, mv_I (c : Int), mv_I (k : Int)]) (st' := [mv_I (M 31 (4 * c + k)), mv_I (k : Int), mv_I (u : Int), mv_I (p : Int), mv_R 30]) (M1 := M) rfl ?_
            refine mv_tt' (by first | omega | decide) ?_
            have hr1 := sp_ok_1 ho (4 * c + k) (by omega)
            rw [show M 31 (4 * c + k) = V 1 (4 * c + k) from by exact sp_c_1 hc (4 * c + k) (by omega)]
            refine mv_call (st2 := [mv_I (sp_says V P p u k (V 1 (4 * c + k)))]) rfl (Or.inl rfl) rfl rfl rfl (sp_csays_30 hc ho hl hct (by omega) (by omega) (by omega)) (by first | decide | omega) (fun M1 h1 => ?_)
            refine mv_ret (fun n => rfl) ?_
            have hR := sp_R_a1 h h1 (by decide) (by decide)
            have hR2 := hR
            obtain ⟨⟨_, hm1, _⟩, _, ⟨_, hmt1, _⟩, _⟩ := hR2
            refine mv_go' 3 (pc' := 3) (ls' := [mv_R 100, mv_I (p : Int), mv_I (u : Int), mv_I w, mv_U]) (st' := [mv_I 2, mv_I 0, mv_I (p : Int)]) (M1 := M1) rfl ?_
            refine mv_callP (st2 := [mv_I 1]) rfl (Or.inr rfl) rfl rfl rfl (sp_min_t (by omega)) (by first | decide | omega) ?_
            refine mv_go' 1 (pc' := if 1 = 0 then 31 else 9) (ls' := [mv_R 100, mv_I (p : Int), mv_I (u : Int), mv_I w, mv_U]) (st' := []) (M1 := M1) rfl ?_
            refine mv_ff' (by decide) ?_
            refine mv_go' 2 (pc' := 11) (ls' := [mv_R 100, mv_I (p : Int), mv_I (u : Int), mv_I w, mv_U]) (st' := [mv_I (u : Int), mv_R 100]) (M1 := M1) rfl ?_
            refine mv_callP (st2 := [mv_I 1]) rfl (Or.inl rfl) rfl rfl rfl (sp_misUncle_t hm1 ho qb) (by first | decide | omega) ?_
            refine mv_go' 1 (pc' := if 1 = 0 then 31 else 17) (ls' := [mv_R 100, mv_I (p : Int), mv_I (u : Int), mv_I w, mv_U]) (st' := []) (M1 := M1) rfl ?_
            refine mv_ff' (by decide) ?_
            refine mv_go' 3 (pc' := 21) (ls' := [mv_R 100, mv_I (p : Int), mv_I (u : Int), mv_I w, mv_U]) (st' := [mv_I 59, mv_I 0, mv_I w]) (M1 := M1) rfl ?_
            refine mv_callP (st2 := [mv_I 1]) rfl (Or.inr rfl) rfl rfl rfl (sp_min_t (by omega)) (by first | decide | omega) ?_
            refine mv_go' 1 (pc' := if 1 = 0 then 31 else 27) (ls' := [mv_R 100, mv_I (p : Int), mv_I (u : Int), mv_I w, mv_U]) (st' := []) (M1 := M1) rfl ?_
            refine mv_ff' (by decide) ?_
            refine mv_go' 5 (pc' := if 1 = 0 then 58 else 39) (ls' := [mv_R 100, mv_I (p : Int), mv_I (u : Int), mv_I w, mv_I 1]) (st' := []) (M1 := M1) rfl ?_
            refine mv_ff' (by decide) ?_
            refine mv_go' 4 (pc' := if 10 = 0 then mv_bad else 44) (ls' := [mv_R 100, mv_I (p : Int), mv_I (u : Int), mv_I w, mv_I 1]) (st' := [mv_I (mv_w (w.tdiv 10)), mv_R 100]) (M1 := M1) rfl ?_
            refine mv_ff' (by first | omega | decide) ?_
            rw [show mv_w (w.tdiv 10) = w.tdiv 10 from mv_w_id (by omega) (by omega)]
            rw [show w.tdiv 10 = (c : Int) from by exact ec]
            refine mv_callP (st2 := [mv_I 1]) rfl (Or.inl rfl) rfl rfl rfl (sp_misChild_t hm1 ho ⟨by omega, by omega⟩) (by first | decide | omega) ?_
            refine mv_go' 1 (pc' := if 1 = 0 then 58 else 50) (ls' := [mv_R 100, mv_I (p : Int), mv_I (u : Int), mv_I w, mv_I 1]) (st' := []) (M1 := M1) rfl ?_
            refine mv_ff' (by decide) ?_
            refine mv_go' 3 (pc' := if 10 = 0 then mv_bad else 54) (ls' := [mv_R 100, mv_I (p : Int), mv_I (u : Int), mv_I w, mv_I 1]) (st' := [mv_I (mv_w (w.tmod 10))]) (M1 := M1) rfl ?_
            refine mv_ff' (by first | omega | decide) ?_
            refine mv_go' 2 (pc' := if 3 < (mv_w (w.tmod 10)) then 58 else 62) (ls' := [mv_R 100, mv_I (p : Int), mv_I (u : Int), mv_I w, mv_I 1]) (st' := []) (M1 := M1) rfl ?_
            rw [show mv_w (w.tmod 10) = w.tmod 10 from mv_w_id (by omega) (by omega)]
            rw [show w.tmod 10 = (k : Int) from by exact ek]
            refine mv_ff' (by omega) ?_
            refine mv_go' 9 (pc' := if 10 = 0 then mv_bad else 74) (ls' := [mv_R 100, mv_I (p : Int), mv_I (u : Int), mv_I w, mv_I 1]) (st' := [mv_I (mv_w (w.tdiv 10)), mv_I 4, mv_R 104, mv_I (u : Int), mv_I (p : Int), mv_R 100]) (M1 := M1) rfl ?_
            refine mv_ff' (by first | omega | decide) ?_
            rw [show mv_w (w.tdiv 10) = w.tdiv 10 from mv_w_id (by omega) (by omega)]
            rw [show w.tdiv 10 = (c : Int) from by exact ec]
            refine mv_go' 4 (pc' := if 10 = 0 then mv_bad else 79) (ls' := [mv_R 100, mv_I (p : Int), mv_I (u : Int), mv_I w, mv_I 1]) (st' := [mv_I (mv_w (w.tmod 10)), mv_I (mv_w (4 * (c : Int))), mv_R 104, mv_I (u : Int), mv_I (p : Int), mv_R 100]) (M1 := M1) rfl ?_
            refine mv_ff' (by first | omega | decide) ?_
            rw [show mv_w (w.tmod 10) = w.tmod 10 from mv_w_id (by omega) (by omega)]
            rw [show mv_w (4 * (c : Int)) = 4 * (c : Int) from mv_w_id (by omega) (by omega)]
            rw [show w.tmod 10 = (k : Int) from by exact ek]
            refine mv_go' 1 (pc' := 80) (ls' := [mv_R 100, mv_I (p : Int), mv_I (u : Int), mv_I w, mv_I 1]) (st' := [mv_I (mv_w ((4 * (c : Int)) + (k : Int))), mv_R 104, mv_I (u : Int), mv_I (p : Int), mv_R 100]) (M1 := M1) rfl ?_
            rw [show mv_w ((4 * (c : Int)) + (k : Int)) = ((4 * c + k : Nat) : Int) from by (rw [show mv_w ((4 * (c : Int)) + (k : Int)) = (4 * (c : Int)) + (k : Int) from mv_w_id (by omega) (by omega)]) <;> omega]
            refine mv_go' 1 (pc' := if 0 ≤ ((4 * c + k : Nat) : Int) ∧ ((4 * c + k : Nat) : Int) < 24 then 81 else mv_bad) (ls' := [mv_R 100, mv_I (p : Int), mv_I (u : Int), mv_I w, mv_I 1]) (st' := [mv_I (M1 104 (4 * c + k)), mv_I (u : Int), mv_I (p : Int), mv_R 100]) (M1 := M1) rfl ?_
            refine mv_tt' (by first | omega | decide) ?_
            have hr3 := sp_ok_1 ho (4 * c + k) (by omega)
            rw [show M1 104 (4 * c + k) = V 1 (4 * c + k) from by exact sp_m_1 hm1 (4 * c + k) (by omega)]
            refine mv_go' 3 (pc' := if 10 = 0 then mv_bad else 85) (ls' := [mv_R 100, mv_I (p : Int), mv_I (u : Int), mv_I w, mv_I 1]) (st' := [mv_I (mv_w (w.tmod 10)), mv_I (V 1 (4 * c + k)), mv_I (u : Int), mv_I (p : Int), mv_R 100]) (M1 := M1) rfl ?_
            refine mv_ff' (by first | omega | decide) ?_
            rw [show mv_w (w.tmod 10) = w.tmod 10 from mv_w_id (by omega) (by omega)]
            rw [show w.tmod 10 = (k : Int) from by exact ek]
            refine mv_call (st2 := [mv_I (sp_says V P p u k (V 1 (4 * c + k)))]) rfl (Or.inl rfl) rfl rfl rfl (sp_masks hm1 ho hl hmt1 (by omega) (by omega) (by omega)) (by first | decide | omega) (fun M2 h2 => ?_)
            exact mv_ret (fun n => rfl) ⟨V, P, n, B, K, t, sp_R_a1 hR h2 (by decide) (by decide)⟩
          · refine ⟨-1000, ?_⟩
            refine mv_go' 2 (pc' := if a < 0 then 24 else 4) (ls' := [mv_R 0, mv_I a, mv_I b, mv_I w, mv_U, mv_U]) (st' := []) (M1 := M) rfl ?_
            refine mv_ff' (by omega) ?_
            refine mv_go' 3 (pc' := if a < 3 then 9 else 24) (ls' := [mv_R 0, mv_I a, mv_I b, mv_I w, mv_U, mv_U]) (st' := []) (M1 := M) rfl ?_
            refine mv_tt' (by omega) ?_
            refine mv_go' 3 (pc' := 14) (ls' := [mv_R 0, mv_I a, mv_I b, mv_I w, mv_U, mv_U]) (st' := [mv_I b, mv_R 30]) (M1 := M) rfl ?_
            refine mv_callP (st2 := [mv_I 1]) rfl (Or.inl rfl) rfl rfl rfl (sp_cisUncle_t_30 hc ho qb) (by first | decide | omega) ?_
            refine mv_go' 1 (pc' := if 1 = 0 then 24 else 20) (ls' := [mv_R 0, mv_I a, mv_I b, mv_I w, mv_U, mv_U]) (st' := []) (M1 := M) rfl ?_
            refine mv_ff' (by decide) ?_
            refine mv_go' 2 (pc' := if w < 0 then 24 else 28) (ls' := [mv_R 0, mv_I a, mv_I b, mv_I w, mv_U, mv_U]) (st' := []) (M1 := M) rfl ?_
            refine mv_ff' (by omega) ?_
            refine mv_go' 3 (pc' := if 10 = 0 then mv_bad else 32) (ls' := [mv_R 0, mv_I a, mv_I b, mv_I w, mv_U, mv_U]) (st' := [mv_I (mv_w (w.tdiv 10))]) (M1 := M) rfl ?_
            refine mv_ff' (by first | omega | decide) ?_
            refine mv_go' 4 (pc' := if 10 = 0 then mv_bad else 38) (ls' := [mv_R 0, mv_I a, mv_I b, mv_I w, mv_I (mv_w (w.tdiv 10)), mv_U]) (st' := [mv_I (mv_w (w.tmod 10))]) (M1 := M) rfl ?_
            refine mv_ff' (by first | omega | decide) ?_
            refine mv_go' 1 (pc' := 40) (ls' := [mv_R 0, mv_I a, mv_I b, mv_I w, mv_I (mv_w (w.tdiv 10)), mv_I (mv_w (w.tmod 10))]) (st' := []) (M1 := M) rfl ?_
            rw [show mv_w (w.tdiv 10) = w.tdiv 10 from mv_w_id (by omega) (by omega)]
            rw [show mv_w (w.tmod 10) = w.tmod 10 from mv_w_id (by omega) (by omega)]
            refine mv_go' 3 (pc' := 46) (ls' := [mv_R 0, mv_I a, mv_I b, mv_I w, mv_I (w.tdiv 10), mv_I (w.tmod 10)]) (st' := [mv_I (w.tdiv 10), mv_R 30]) (M1 := M) rfl ?_
            refine mv_callP (st2 := [mv_I 1]) rfl (Or.inl rfl) rfl rfl rfl (sp_cisChild_t_30 hc ho ⟨by omega, by omega⟩) (by first | decide | omega) ?_
            refine mv_go' 1 (pc' := if 1 = 0 then 58 else 52) (ls' := [mv_R 0, mv_I a, mv_I b, mv_I w, mv_I (w.tdiv 10), mv_I (w.tmod 10)]) (st' := []) (M1 := M) rfl ?_
            refine mv_ff' (by decide) ?_
            refine mv_go' 3 (pc' := if (w.tmod 10) < 4 then 62 else 58) (ls' := [mv_R 0, mv_I a, mv_I b, mv_I w, mv_I (w.tdiv 10), mv_I (w.tmod 10)]) (st' := []) (M1 := M) rfl ?_
            refine mv_ff' (by omega) ?_
            refine mv_go' 1 (pc' := 61) (ls' := [mv_R 0, mv_I a, mv_I b, mv_I w, mv_I (w.tdiv 10), mv_I (w.tmod 10)]) (st' := [mv_I (-1000)]) (M1 := M) rfl ?_
            refine mv_ret (fun n => rfl) ?_
            refine mv_go' 3 (pc' := 3) (ls' := [mv_R 100, mv_I a, mv_I b, mv_I w, mv_U]) (st' := [mv_I 2, mv_I 0, mv_I a]) (M1 := M) rfl ?_
            refine mv_callP (st2 := [mv_I 1]) rfl (Or.inr rfl) rfl rfl rfl (sp_min_t (by omega)) (by first | decide | omega) ?_
            refine mv_go' 1 (pc' := if 1 = 0 then 31 else 9) (ls' := [mv_R 100, mv_I a, mv_I b, mv_I w, mv_U]) (st' := []) (M1 := M) rfl ?_
            refine mv_ff' (by decide) ?_
            refine mv_go' 2 (pc' := 11) (ls' := [mv_R 100, mv_I a, mv_I b, mv_I w, mv_U]) (st' := [mv_I b, mv_R 100]) (M1 := M) rfl ?_
            refine mv_callP (st2 := [mv_I 1]) rfl (Or.inl rfl) rfl rfl rfl (sp_misUncle_t hm ho qb) (by first | decide | omega) ?_
            refine mv_go' 1 (pc' := if 1 = 0 then 31 else 17) (ls' := [mv_R 100, mv_I a, mv_I b, mv_I w, mv_U]) (st' := []) (M1 := M) rfl ?_
            refine mv_ff' (by decide) ?_
            refine mv_go' 3 (pc' := 21) (ls' := [mv_R 100, mv_I a, mv_I b, mv_I w, mv_U]) (st' := [mv_I 59, mv_I 0, mv_I w]) (M1 := M) rfl ?_
            refine mv_callP (st2 := [mv_I 1]) rfl (Or.inr rfl) rfl rfl rfl (sp_min_t (by omega)) (by first | decide | omega) ?_
            refine mv_go' 1 (pc' := if 1 = 0 then 31 else 27) (ls' := [mv_R 100, mv_I a, mv_I b, mv_I w, mv_U]) (st' := []) (M1 := M) rfl ?_
            refine mv_ff' (by decide) ?_
            refine mv_go' 5 (pc' := if 1 = 0 then 58 else 39) (ls' := [mv_R 100, mv_I a, mv_I b, mv_I w, mv_I 1]) (st' := []) (M1 := M) rfl ?_
            refine mv_ff' (by decide) ?_
            refine mv_go' 4 (pc' := if 10 = 0 then mv_bad else 44) (ls' := [mv_R 100, mv_I a, mv_I b, mv_I w, mv_I 1]) (st' := [mv_I (mv_w (w.tdiv 10)), mv_R 100]) (M1 := M) rfl ?_
            refine mv_ff' (by first | omega | decide) ?_
            rw [show mv_w (w.tdiv 10) = w.tdiv 10 from mv_w_id (by omega) (by omega)]
            refine mv_callP (st2 := [mv_I 1]) rfl (Or.inl rfl) rfl rfl rfl (sp_misChild_t hm ho ⟨by omega, by omega⟩) (by first | decide | omega) ?_
            refine mv_go' 1 (pc' := if 1 = 0 then 58 else 50) (ls' := [mv_R 100, mv_I a, mv_I b, mv_I w, mv_I 1]) (st' := []) (M1 := M) rfl ?_
            refine mv_ff' (by decide) ?_
            refine mv_go' 3 (pc' := if 10 = 0 then mv_bad else 54) (ls' := [mv_R 100, mv_I a, mv_I b, mv_I w, mv_I 1]) (st' := [mv_I (mv_w (w.tmod 10))]) (M1 := M) rfl ?_
            refine mv_ff' (by first | omega | decide) ?_
            refine mv_go' 2 (pc' := if 3 < (mv_w (w.tmod 10)) then 58 else 62) (ls' := [mv_R 100, mv_I a, mv_I b, mv_I w, mv_I 1]) (st' := []) (M1 := M) rfl ?_
            rw [show mv_w (w.tmod 10) = w.tmod 10 from mv_w_id (by omega) (by omega)]
            refine mv_tt' (by omega) ?_
            refine mv_go' 1 (pc' := 61) (ls' := [mv_R 100, mv_I a, mv_I b, mv_I w, mv_I 1]) (st' := [mv_I (-1000)]) (M1 := M) rfl ?_
            exact mv_ret (fun n => rfl) (⟨V, P, n, B, K, t, h⟩)
        · by_cases q59 : w ≤ 59
          · refine ⟨-1000, ?_⟩
            refine mv_go' 2 (pc' := if a < 0 then 24 else 4) (ls' := [mv_R 0, mv_I a, mv_I b, mv_I w, mv_U, mv_U]) (st' := []) (M1 := M) rfl ?_
            refine mv_ff' (by omega) ?_
            refine mv_go' 3 (pc' := if a < 3 then 9 else 24) (ls' := [mv_R 0, mv_I a, mv_I b, mv_I w, mv_U, mv_U]) (st' := []) (M1 := M) rfl ?_
            refine mv_tt' (by omega) ?_
            refine mv_go' 3 (pc' := 14) (ls' := [mv_R 0, mv_I a, mv_I b, mv_I w, mv_U, mv_U]) (st' := [mv_I b, mv_R 30]) (M1 := M) rfl ?_
            refine mv_callP (st2 := [mv_I 1]) rfl (Or.inl rfl) rfl rfl rfl (sp_cisUncle_t_30 hc ho qb) (by first | decide | omega) ?_
            refine mv_go' 1 (pc' := if 1 = 0 then 24 else 20) (ls' := [mv_R 0, mv_I a, mv_I b, mv_I w, mv_U, mv_U]) (st' := []) (M1 := M) rfl ?_
            refine mv_ff' (by decide) ?_
            refine mv_go' 2 (pc' := if w < 0 then 24 else 28) (ls' := [mv_R 0, mv_I a, mv_I b, mv_I w, mv_U, mv_U]) (st' := []) (M1 := M) rfl ?_
            refine mv_ff' (by omega) ?_
            refine mv_go' 3 (pc' := if 10 = 0 then mv_bad else 32) (ls' := [mv_R 0, mv_I a, mv_I b, mv_I w, mv_U, mv_U]) (st' := [mv_I (mv_w (w.tdiv 10))]) (M1 := M) rfl ?_
            refine mv_ff' (by first | omega | decide) ?_
            refine mv_go' 4 (pc' := if 10 = 0 then mv_bad else 38) (ls' := [mv_R 0, mv_I a, mv_I b, mv_I w, mv_I (mv_w (w.tdiv 10)), mv_U]) (st' := [mv_I (mv_w (w.tmod 10))]) (M1 := M) rfl ?_
            refine mv_ff' (by first | omega | decide) ?_
            refine mv_go' 1 (pc' := 40) (ls' := [mv_R 0, mv_I a, mv_I b, mv_I w, mv_I (mv_w (w.tdiv 10)), mv_I (mv_w (w.tmod 10))]) (st' := []) (M1 := M) rfl ?_
            rw [show mv_w (w.tdiv 10) = w.tdiv 10 from mv_w_id (by omega) (by omega)]
            rw [show mv_w (w.tmod 10) = w.tmod 10 from mv_w_id (by omega) (by omega)]
            refine mv_go' 3 (pc' := 46) (ls' := [mv_R 0, mv_I a, mv_I b, mv_I w, mv_I (w.tdiv 10), mv_I (w.tmod 10)]) (st' := [mv_I (w.tdiv 10), mv_R 30]) (M1 := M) rfl ?_
            refine mv_callP (st2 := [mv_I 0]) rfl (Or.inl rfl) rfl rfl rfl (sp_cisChild_f_30 hc ho (by omega)) (by first | decide | omega) ?_
            refine mv_go' 1 (pc' := if 0 = 0 then 58 else 52) (ls' := [mv_R 0, mv_I a, mv_I b, mv_I w, mv_I (w.tdiv 10), mv_I (w.tmod 10)]) (st' := []) (M1 := M) rfl ?_
            refine mv_tt' (rfl) ?_
            refine mv_go' 1 (pc' := 61) (ls' := [mv_R 0, mv_I a, mv_I b, mv_I w, mv_I (w.tdiv 10), mv_I (w.tmod 10)]) (st' := [mv_I (-1000)]) (M1 := M) rfl ?_
            refine mv_ret (fun n => rfl) ?_
            refine mv_go' 3 (pc' := 3) (ls' := [mv_R 100, mv_I a, mv_I b, mv_I w, mv_U]) (st' := [mv_I 2, mv_I 0, mv_I a]) (M1 := M) rfl ?_
            refine mv_callP (st2 := [mv_I 1]) rfl (Or.inr rfl) rfl rfl rfl (sp_min_t (by omega)) (by first | decide | omega) ?_
            refine mv_go' 1 (pc' := if 1 = 0 then 31 else 9) (ls' := [mv_R 100, mv_I a, mv_I b, mv_I w, mv_U]) (st' := []) (M1 := M) rfl ?_
            refine mv_ff' (by decide) ?_
            refine mv_go' 2 (pc' := 11) (ls' := [mv_R 100, mv_I a, mv_I b, mv_I w, mv_U]) (st' := [mv_I b, mv_R 100]) (M1 := M) rfl ?_
            refine mv_callP (st2 := [mv_I 1]) rfl (Or.inl rfl) rfl rfl rfl (sp_misUncle_t hm ho qb) (by first | decide | omega) ?_
            refine mv_go' 1 (pc' := if 1 = 0 then 31 else 17) (ls' := [mv_R 100, mv_I a, mv_I b, mv_I w, mv_U]) (st' := []) (M1 := M) rfl ?_
            refine mv_ff' (by decide) ?_
            refine mv_go' 3 (pc' := 21) (ls' := [mv_R 100, mv_I a, mv_I b, mv_I w, mv_U]) (st' := [mv_I 59, mv_I 0, mv_I w]) (M1 := M) rfl ?_
            refine mv_callP (st2 := [mv_I 1]) rfl (Or.inr rfl) rfl rfl rfl (sp_min_t (by omega)) (by first | decide | omega) ?_
            refine mv_go' 1 (pc' := if 1 = 0 then 31 else 27) (ls' := [mv_R 100, mv_I a, mv_I b, mv_I w, mv_U]) (st' := []) (M1 := M) rfl ?_
            refine mv_ff' (by decide) ?_
            refine mv_go' 5 (pc' := if 1 = 0 then 58 else 39) (ls' := [mv_R 100, mv_I a, mv_I b, mv_I w, mv_I 1]) (st' := []) (M1 := M) rfl ?_
            refine mv_ff' (by decide) ?_
            refine mv_go' 4 (pc' := if 10 = 0 then mv_bad else 44) (ls' := [mv_R 100, mv_I a, mv_I b, mv_I w, mv_I 1]) (st' := [mv_I (mv_w (w.tdiv 10)), mv_R 100]) (M1 := M) rfl ?_
            refine mv_ff' (by first | omega | decide) ?_
            rw [show mv_w (w.tdiv 10) = w.tdiv 10 from mv_w_id (by omega) (by omega)]
            refine mv_callP (st2 := [mv_I 0]) rfl (Or.inl rfl) rfl rfl rfl (sp_misChild_f hm ho (by omega)) (by first | decide | omega) ?_
            refine mv_go' 1 (pc' := if 0 = 0 then 58 else 50) (ls' := [mv_R 100, mv_I a, mv_I b, mv_I w, mv_I 1]) (st' := []) (M1 := M) rfl ?_
            refine mv_tt' (rfl) ?_
            refine mv_go' 1 (pc' := 61) (ls' := [mv_R 100, mv_I a, mv_I b, mv_I w, mv_I 1]) (st' := [mv_I (-1000)]) (M1 := M) rfl ?_
            exact mv_ret (fun n => rfl) (⟨V, P, n, B, K, t, h⟩)
          · refine ⟨-1000, ?_⟩
            refine mv_go' 2 (pc' := if a < 0 then 24 else 4) (ls' := [mv_R 0, mv_I a, mv_I b, mv_I w, mv_U, mv_U]) (st' := []) (M1 := M) rfl ?_
            refine mv_ff' (by omega) ?_
            refine mv_go' 3 (pc' := if a < 3 then 9 else 24) (ls' := [mv_R 0, mv_I a, mv_I b, mv_I w, mv_U, mv_U]) (st' := []) (M1 := M) rfl ?_
            refine mv_tt' (by omega) ?_
            refine mv_go' 3 (pc' := 14) (ls' := [mv_R 0, mv_I a, mv_I b, mv_I w, mv_U, mv_U]) (st' := [mv_I b, mv_R 30]) (M1 := M) rfl ?_
            refine mv_callP (st2 := [mv_I 1]) rfl (Or.inl rfl) rfl rfl rfl (sp_cisUncle_t_30 hc ho qb) (by first | decide | omega) ?_
            refine mv_go' 1 (pc' := if 1 = 0 then 24 else 20) (ls' := [mv_R 0, mv_I a, mv_I b, mv_I w, mv_U, mv_U]) (st' := []) (M1 := M) rfl ?_
            refine mv_ff' (by decide) ?_
            refine mv_go' 2 (pc' := if w < 0 then 24 else 28) (ls' := [mv_R 0, mv_I a, mv_I b, mv_I w, mv_U, mv_U]) (st' := []) (M1 := M) rfl ?_
            refine mv_ff' (by omega) ?_
            refine mv_go' 3 (pc' := if 10 = 0 then mv_bad else 32) (ls' := [mv_R 0, mv_I a, mv_I b, mv_I w, mv_U, mv_U]) (st' := [mv_I (mv_w (w.tdiv 10))]) (M1 := M) rfl ?_
            refine mv_ff' (by first | omega | decide) ?_
            refine mv_go' 4 (pc' := if 10 = 0 then mv_bad else 38) (ls' := [mv_R 0, mv_I a, mv_I b, mv_I w, mv_I (mv_w (w.tdiv 10)), mv_U]) (st' := [mv_I (mv_w (w.tmod 10))]) (M1 := M) rfl ?_
            refine mv_ff' (by first | omega | decide) ?_
            refine mv_go' 1 (pc' := 40) (ls' := [mv_R 0, mv_I a, mv_I b, mv_I w, mv_I (mv_w (w.tdiv 10)), mv_I (mv_w (w.tmod 10))]) (st' := []) (M1 := M) rfl ?_
            rw [show mv_w (w.tdiv 10) = w.tdiv 10 from mv_w_id (by omega) (by omega)]
            rw [show mv_w (w.tmod 10) = w.tmod 10 from mv_w_id (by omega) (by omega)]
            refine mv_go' 3 (pc' := 46) (ls' := [mv_R 0, mv_I a, mv_I b, mv_I w, mv_I (w.tdiv 10), mv_I (w.tmod 10)]) (st' := [mv_I (w.tdiv 10), mv_R 30]) (M1 := M) rfl ?_
            refine mv_callP (st2 := [mv_I 0]) rfl (Or.inl rfl) rfl rfl rfl (sp_cisChild_f_30 hc ho (by omega)) (by first | decide | omega) ?_
            refine mv_go' 1 (pc' := if 0 = 0 then 58 else 52) (ls' := [mv_R 0, mv_I a, mv_I b, mv_I w, mv_I (w.tdiv 10), mv_I (w.tmod 10)]) (st' := []) (M1 := M) rfl ?_
            refine mv_tt' (rfl) ?_
            refine mv_go' 1 (pc' := 61) (ls' := [mv_R 0, mv_I a, mv_I b, mv_I w, mv_I (w.tdiv 10), mv_I (w.tmod 10)]) (st' := [mv_I (-1000)]) (M1 := M) rfl ?_
            refine mv_ret (fun n => rfl) ?_
            refine mv_go' 3 (pc' := 3) (ls' := [mv_R 100, mv_I a, mv_I b, mv_I w, mv_U]) (st' := [mv_I 2, mv_I 0, mv_I a]) (M1 := M) rfl ?_
            refine mv_callP (st2 := [mv_I 1]) rfl (Or.inr rfl) rfl rfl rfl (sp_min_t (by omega)) (by first | decide | omega) ?_
            refine mv_go' 1 (pc' := if 1 = 0 then 31 else 9) (ls' := [mv_R 100, mv_I a, mv_I b, mv_I w, mv_U]) (st' := []) (M1 := M) rfl ?_
            refine mv_ff' (by decide) ?_
            refine mv_go' 2 (pc' := 11) (ls' := [mv_R 100, mv_I a, mv_I b, mv_I w, mv_U]) (st' := [mv_I b, mv_R 100]) (M1 := M) rfl ?_
            refine mv_callP (st2 := [mv_I 1]) rfl (Or.inl rfl) rfl rfl rfl (sp_misUncle_t hm ho qb) (by first | decide | omega) ?_
            refine mv_go' 1 (pc' := if 1 = 0 then 31 else 17) (ls' := [mv_R 100, mv_I a, mv_I b, mv_I w, mv_U]) (st' := []) (M1 := M) rfl ?_
            refine mv_ff' (by decide) ?_
            refine mv_go' 3 (pc' := 21) (ls' := [mv_R 100, mv_I a, mv_I b, mv_I w, mv_U]) (st' := [mv_I 59, mv_I 0, mv_I w]) (M1 := M) rfl ?_
            refine mv_callP (st2 := [mv_I 0]) rfl (Or.inr rfl) rfl rfl rfl (sp_min_f (by omega)) (by first | decide | omega) ?_
            refine mv_go' 1 (pc' := if 0 = 0 then 31 else 27) (ls' := [mv_R 100, mv_I a, mv_I b, mv_I w, mv_U]) (st' := []) (M1 := M) rfl ?_
            refine mv_tt' (rfl) ?_
            refine mv_go' 4 (pc' := if 0 = 0 then 58 else 39) (ls' := [mv_R 100, mv_I a, mv_I b, mv_I w, mv_I 0]) (st' := []) (M1 := M) rfl ?_
            refine mv_tt' (rfl) ?_
            refine mv_go' 1 (pc' := 61) (ls' := [mv_R 100, mv_I a, mv_I b, mv_I w, mv_I 0]) (st' := [mv_I (-1000)]) (M1 := M) rfl ?_
            exact mv_ret (fun n => rfl) (⟨V, P, n, B, K, t, h⟩)
      · refine ⟨-1000, ?_⟩
        refine mv_go' 2 (pc' := if a < 0 then 24 else 4) (ls' := [mv_R 0, mv_I a, mv_I b, mv_I w, mv_U, mv_U]) (st' := []) (M1 := M) rfl ?_
        refine mv_ff' (by omega) ?_
        refine mv_go' 3 (pc' := if a < 3 then 9 else 24) (ls' := [mv_R 0, mv_I a, mv_I b, mv_I w, mv_U, mv_U]) (st' := []) (M1 := M) rfl ?_
        refine mv_tt' (by omega) ?_
        refine mv_go' 3 (pc' := 14) (ls' := [mv_R 0, mv_I a, mv_I b, mv_I w, mv_U, mv_U]) (st' := [mv_I b, mv_R 30]) (M1 := M) rfl ?_
        refine mv_callP (st2 := [mv_I 1]) rfl (Or.inl rfl) rfl rfl rfl (sp_cisUncle_t_30 hc ho qb) (by first | decide | omega) ?_
        refine mv_go' 1 (pc' := if 1 = 0 then 24 else 20) (ls' := [mv_R 0, mv_I a, mv_I b, mv_I w, mv_U, mv_U]) (st' := []) (M1 := M) rfl ?_
        refine mv_ff' (by decide) ?_
        refine mv_go' 2 (pc' := if w < 0 then 24 else 28) (ls' := [mv_R 0, mv_I a, mv_I b, mv_I w, mv_U, mv_U]) (st' := []) (M1 := M) rfl ?_
        refine mv_tt' (by omega) ?_
        refine mv_go' 1 (pc' := 27) (ls' := [mv_R 0, mv_I a, mv_I b, mv_I w, mv_U, mv_U]) (st' := [mv_I (-1000)]) (M1 := M) rfl ?_
        refine mv_ret (fun n => rfl) ?_
        refine mv_go' 3 (pc' := 3) (ls' := [mv_R 100, mv_I a, mv_I b, mv_I w, mv_U]) (st' := [mv_I 2, mv_I 0, mv_I a]) (M1 := M) rfl ?_
        refine mv_callP (st2 := [mv_I 1]) rfl (Or.inr rfl) rfl rfl rfl (sp_min_t (by omega)) (by first | decide | omega) ?_
        refine mv_go' 1 (pc' := if 1 = 0 then 31 else 9) (ls' := [mv_R 100, mv_I a, mv_I b, mv_I w, mv_U]) (st' := []) (M1 := M) rfl ?_
        refine mv_ff' (by decide) ?_
        refine mv_go' 2 (pc' := 11) (ls' := [mv_R 100, mv_I a, mv_I b, mv_I w, mv_U]) (st' := [mv_I b, mv_R 100]) (M1 := M) rfl ?_
        refine mv_callP (st2 := [mv_I 1]) rfl (Or.inl rfl) rfl rfl rfl (sp_misUncle_t hm ho qb) (by first | decide | omega) ?_
        refine mv_go' 1 (pc' := if 1 = 0 then 31 else 17) (ls' := [mv_R 100, mv_I a, mv_I b, mv_I w, mv_U]) (st' := []) (M1 := M) rfl ?_
        refine mv_ff' (by decide) ?_
        refine mv_go' 3 (pc' := 21) (ls' := [mv_R 100, mv_I a, mv_I b, mv_I w, mv_U]) (st' := [mv_I 59, mv_I 0, mv_I w]) (M1 := M) rfl ?_
        refine mv_callP (st2 := [mv_I 0]) rfl (Or.inr rfl) rfl rfl rfl (sp_min_f (by omega)) (by first | decide | omega) ?_
        refine mv_go' 1 (pc' := if 0 = 0 then 31 else 27) (ls' := [mv_R 100, mv_I a, mv_I b, mv_I w, mv_U]) (st' := []) (M1 := M) rfl ?_
        refine mv_tt' (rfl) ?_
        refine mv_go' 4 (pc' := if 0 = 0 then 58 else 39) (ls' := [mv_R 100, mv_I a, mv_I b, mv_I w, mv_I 0]) (st' := []) (M1 := M) rfl ?_
        refine mv_tt' (rfl) ?_
        refine mv_go' 1 (pc' := 61) (ls' := [mv_R 100, mv_I a, mv_I b, mv_I w, mv_I 0]) (st' := [mv_I (-1000)]) (M1 := M) rfl ?_
        exact mv_ret (fun n => rfl) (⟨V, P, n, B, K, t, h⟩)
    · refine ⟨-1000, ?_⟩
      refine mv_go' 2 (pc' := if a < 0 then 24 else 4) (ls' := [mv_R 0, mv_I a, mv_I b, mv_I w, mv_U, mv_U]) (st' := []) (M1 := M) rfl ?_
      refine mv_ff' (by omega) ?_
      refine mv_go' 3 (pc' := if a < 3 then 9 else 24) (ls' := [mv_R 0, mv_I a, mv_I b, mv_I w, mv_U, mv_U]) (st' := []) (M1 := M) rfl ?_
      refine mv_tt' (by omega) ?_
      refine mv_go' 3 (pc' := 14) (ls' := [mv_R 0, mv_I a, mv_I b, mv_I w, mv_U, mv_U]) (st' := [mv_I b, mv_R 30]) (M1 := M) rfl ?_
      refine mv_callP (st2 := [mv_I 0]) rfl (Or.inl rfl) rfl rfl rfl (sp_cisUncle_f_30 hc ho qb) (by first | decide | omega) ?_
      refine mv_go' 1 (pc' := if 0 = 0 then 24 else 20) (ls' := [mv_R 0, mv_I a, mv_I b, mv_I w, mv_U, mv_U]) (st' := []) (M1 := M) rfl ?_
      refine mv_tt' (rfl) ?_
      refine mv_go' 1 (pc' := 27) (ls' := [mv_R 0, mv_I a, mv_I b, mv_I w, mv_U, mv_U]) (st' := [mv_I (-1000)]) (M1 := M) rfl ?_
      refine mv_ret (fun n => rfl) ?_
      refine mv_go' 3 (pc' := 3) (ls' := [mv_R 100, mv_I a, mv_I b, mv_I w, mv_U]) (st' := [mv_I 2, mv_I 0, mv_I a]) (M1 := M) rfl ?_
      refine mv_callP (st2 := [mv_I 1]) rfl (Or.inr rfl) rfl rfl rfl (sp_min_t (by omega)) (by first | decide | omega) ?_
      refine mv_go' 1 (pc' := if 1 = 0 then 31 else 9) (ls' := [mv_R 100, mv_I a, mv_I b, mv_I w, mv_U]) (st' := []) (M1 := M) rfl ?_
      refine mv_ff' (by decide) ?_
      refine mv_go' 2 (pc' := 11) (ls' := [mv_R 100, mv_I a, mv_I b, mv_I w, mv_U]) (st' := [mv_I b, mv_R 100]) (M1 := M) rfl ?_
      refine mv_callP (st2 := [mv_I 0]) rfl (Or.inl rfl) rfl rfl rfl (sp_misUncle_f hm ho qb) (by first | decide | omega) ?_
      refine mv_go' 1 (pc' := if 0 = 0 then 31 else 17) (ls' := [mv_R 100, mv_I a, mv_I b, mv_I w, mv_U]) (st' := []) (M1 := M) rfl ?_
      refine mv_tt' (rfl) ?_
      refine mv_go' 4 (pc' := if 0 = 0 then 58 else 39) (ls' := [mv_R 100, mv_I a, mv_I b, mv_I w, mv_I 0]) (st' := []) (M1 := M) rfl ?_
      refine mv_tt' (rfl) ?_
      refine mv_go' 1 (pc' := 61) (ls' := [mv_R 100, mv_I a, mv_I b, mv_I w, mv_I 0]) (st' := [mv_I (-1000)]) (M1 := M) rfl ?_
      exact mv_ret (fun n => rfl) (⟨V, P, n, B, K, t, h⟩)
  · by_cases q0 : a < 0
    · refine ⟨-1000, ?_⟩
      refine mv_go' 2 (pc' := if a < 0 then 24 else 4) (ls' := [mv_R 0, mv_I a, mv_I b, mv_I w, mv_U, mv_U]) (st' := []) (M1 := M) rfl ?_
      refine mv_tt' (by omega) ?_
      refine mv_go' 1 (pc' := 27) (ls' := [mv_R 0, mv_I a, mv_I b, mv_I w, mv_U, mv_U]) (st' := [mv_I (-1000)]) (M1 := M) rfl ?_
      refine mv_ret (fun n => rfl) ?_
      refine mv_go' 3 (pc' := 3) (ls' := [mv_R 100, mv_I a, mv_I b, mv_I w, mv_U]) (st' := [mv_I 2, mv_I 0, mv_I a]) (M1 := M) rfl ?_
      refine mv_callP (st2 := [mv_I 0]) rfl (Or.inr rfl) rfl rfl rfl (sp_min_f (by omega)) (by first | decide | omega) ?_
      refine mv_go' 1 (pc' := if 0 = 0 then 31 else 9) (ls' := [mv_R 100, mv_I a, mv_I b, mv_I w, mv_U]) (st' := []) (M1 := M) rfl ?_
      refine mv_tt' (rfl) ?_
      refine mv_go' 4 (pc' := if 0 = 0 then 58 else 39) (ls' := [mv_R 100, mv_I a, mv_I b, mv_I w, mv_I 0]) (st' := []) (M1 := M) rfl ?_
      refine mv_tt' (rfl) ?_
      refine mv_go' 1 (pc' := 61) (ls' := [mv_R 100, mv_I a, mv_I b, mv_I w, mv_I 0]) (st' := [mv_I (-1000)]) (M1 := M) rfl ?_
      exact mv_ret (fun n => rfl) (⟨V, P, n, B, K, t, h⟩)
    · refine ⟨-1000, ?_⟩
      refine mv_go' 2 (pc' := if a < 0 then 24 else 4) (ls' := [mv_R 0, mv_I a, mv_I b, mv_I w, mv_U, mv_U]) (st' := []) (M1 := M) rfl ?_
      refine mv_ff' (by omega) ?_
      refine mv_go' 3 (pc' := if a < 3 then 9 else 24) (ls' := [mv_R 0, mv_I a, mv_I b, mv_I w, mv_U, mv_U]) (st' := []) (M1 := M) rfl ?_
      refine mv_ff' (by omega) ?_
      refine mv_go' 1 (pc' := 27) (ls' := [mv_R 0, mv_I a, mv_I b, mv_I w, mv_U, mv_U]) (st' := [mv_I (-1000)]) (M1 := M) rfl ?_
      refine mv_ret (fun n => rfl) ?_
      refine mv_go' 3 (pc' := 3) (ls' := [mv_R 100, mv_I a, mv_I b, mv_I w, mv_U]) (st' := [mv_I 2, mv_I 0, mv_I a]) (M1 := M) rfl ?_
      refine mv_callP (st2 := [mv_I 0]) rfl (Or.inr rfl) rfl rfl rfl (sp_min_f (by omega)) (by first | decide | omega) ?_
      refine mv_go' 1 (pc' := if 0 = 0 then 31 else 9) (ls' := [mv_R 100, mv_I a, mv_I b, mv_I w, mv_U]) (st' := []) (M1 := M) rfl ?_
      refine mv_tt' (rfl) ?_
      refine mv_go' 4 (pc' := if 0 = 0 then 58 else 39) (ls' := [mv_R 100, mv_I a, mv_I b, mv_I w, mv_I 0]) (st' := []) (M1 := M) rfl ?_
      refine mv_tt' (rfl) ?_
      refine mv_go' 1 (pc' := 61) (ls' := [mv_R 100, mv_I a, mv_I b, mv_I w, mv_I 0]) (st' := [mv_I (-1000)]) (M1 := M) rfl ?_
      exact mv_ret (fun n => rfl) (⟨V, P, n, B, K, t, h⟩)
