/-! small methods of both -/
def sp_b (p : Prop) [Decidable p] : Int := if p then 1 else 0
def sp_isC (V : mv_M) (c : Int) : Prop := 0 ≤ c ∧ c < V 0 8
def sp_isU (V : mv_M) (u : Int) : Prop := 0 ≤ u ∧ u < V 0 9
theorem sp_t5 {v : Int} (h1 : 0 ≤ v) (h2 : v ≤ 9) : 0 ≤ v.tdiv 5 ∧ v.tdiv 5 ≤ 1 := by rw [Int.tdiv_eq_ediv_of_nonneg h1]; omega
theorem sp_tm {v : Int} (h1 : 0 ≤ v) : 0 ≤ v.tmod 10 ∧ v.tmod 10 ≤ 9 := by rw [Int.tmod_eq_emod_of_nonneg h1]; omega
theorem sp_td {v : Int} (h1 : 0 ≤ v) : 0 ≤ v.tdiv 10 ∧ v.tdiv 10 ≤ v := by rw [Int.tdiv_eq_ediv_of_nonneg h1]; omega
def sp_room (V : mv_M) (u : Nat) : Int := if V 4 u = 1 then 1 + (V 5 u).tdiv 5 else if V 4 u = 3 then 3 + (V 5 u).tdiv 5 else if V 4 u = 5 then (if (V 0 10).tmod 10 = V 5 u then 0 else 1) else 1
theorem sp_room_b {V : mv_M} (ho : sp_ok V) {u : Nat} (hu : (u : Int) < V 0 9) : 0 ≤ sp_room V u ∧ sp_room V u ≤ 4 := by
  have h5 := sp_ok_5 ho u hu
  have h := sp_t5 h5.1 h5.2
  unfold sp_room
  repeat (first | omega | split)
def sp_dg (f : Nat → Int) (c : Nat) : Int := ((f (4 * c) * 10 + f (4 * c + 1)) * 10 + f (4 * c + 2)) * 10 + f (4 * c + 3)
def sp_pd (f : Nat → Int) (c : Nat) (v : Int) : Nat → Int := mv_up (mv_up (mv_up (mv_up f (4 * c + 3) (v.tmod 10)) (4 * c + 2) ((v.tdiv 10).tmod 10)) (4 * c + 1) (((v.tdiv 10).tdiv 10).tmod 10)) (4 * c) ((((v.tdiv 10).tdiv 10).tdiv 10).tmod 10)
theorem sp_up_c {f g : Nat → Int} {k j : Nat} {z : Int} (h : f j = g j) : mv_up f k z j = mv_up g k z j := by unfold mv_up; rw [h]
theorem sp_pd_c {f g : Nat → Int} {c j : Nat} {v : Int} (h : f j = g j) : sp_pd f c v j = sp_pd g c v j := sp_up_c (sp_up_c (sp_up_c (sp_up_c h)))
theorem sp_up_b {f : Nat → Int} {k j : Nat} {z a b : Int} (h : a ≤ f j ∧ f j ≤ b) (hz : a ≤ z ∧ z ≤ b) : a ≤ mv_up f k z j ∧ mv_up f k z j ≤ b := by
  unfold mv_up
  split
  · exact hz
  · exact h
theorem sp_pd_b {f : Nat → Int} {c j : Nat} {v : Int} (hv : 0 ≤ v) (h : 0 ≤ f j ∧ f j ≤ 9) : 0 ≤ sp_pd f c v j ∧ sp_pd f c v j ≤ 9 :=
  sp_up_b (sp_up_b (sp_up_b (sp_up_b h (sp_tm hv)) (sp_tm (sp_td hv).1)) (sp_tm (sp_td (sp_td hv).1).1)) (sp_tm (sp_td (sp_td (sp_td hv).1).1).1)
theorem sp_cisChild_t_30 {V M : mv_M} {c : Int} (hV : sp_c 30 M V) (ho : sp_ok V) (h : 0 ≤ c ∧ c < V 0 8) : mv_Ru 0 42 0 [mv_R 30, mv_I c] [] M (mv_I 1) (fun M1 => M1 = M) := by
  refine mv_go' 2 (pc' := if c < 0 then 16 else 4) (ls' := [mv_R 30, mv_I c]) (st' := []) (M1 := M) rfl ?_
  refine mv_ff' (by omega) ?_
  refine mv_go' 3 (pc' := 9) (ls' := [mv_R 30, mv_I c]) (st' := [mv_I (M 30 8), mv_I c]) (M1 := M) rfl ?_
  have hr1 := sp_ok_s8 ho
  rw [show M 30 8 = V 0 8 from by exact sp_c_s8 hV]
  refine mv_go' 1 (pc' := if c < (V 0 8) then 12 else 16) (ls' := [mv_R 30, mv_I c]) (st' := []) (M1 := M) rfl ?_
  refine mv_tt' (by omega) ?_
  refine mv_go' 2 (pc' := 17) (ls' := [mv_R 30, mv_I c]) (st' := [mv_I 1]) (M1 := M) rfl ?_
  exact mv_ret (fun n => rfl) (rfl)
theorem sp_cisChild_f_30 {V M : mv_M} {c : Int} (hV : sp_c 30 M V) (ho : sp_ok V) (h : ¬ (0 ≤ c ∧ c < V 0 8)) : mv_Ru 0 42 0 [mv_R 30, mv_I c] [] M (mv_I 0) (fun M1 => M1 = M) := by
  refine mv_go' 2 (pc' := if c < 0 then 16 else 4) (ls' := [mv_R 30, mv_I c]) (st' := []) (M1 := M) rfl ?_
  refine mv_sp' (fun h1 => ?_) (fun h1 => ?_)
  · refine mv_go' 1 (pc' := 17) (ls' := [mv_R 30, mv_I c]) (st' := [mv_I 0]) (M1 := M) rfl ?_
    exact mv_ret (fun n => rfl) (rfl)
  · refine mv_go' 3 (pc' := 9) (ls' := [mv_R 30, mv_I c]) (st' := [mv_I (M 30 8), mv_I c]) (M1 := M) rfl ?_
    have hr3 := sp_ok_s8 ho
    rw [show M 30 8 = V 0 8 from by exact sp_c_s8 hV]
    refine mv_go' 1 (pc' := if c < (V 0 8) then 12 else 16) (ls' := [mv_R 30, mv_I c]) (st' := []) (M1 := M) rfl ?_
    refine mv_ff' (by omega) ?_
    refine mv_go' 1 (pc' := 17) (ls' := [mv_R 30, mv_I c]) (st' := [mv_I 0]) (M1 := M) rfl ?_
    exact mv_ret (fun n => rfl) (rfl)
theorem sp_cisChild_t_50 {V M : mv_M} {c : Int} (hV : sp_c 50 M V) (ho : sp_ok V) (h : 0 ≤ c ∧ c < V 0 8) : mv_Ru 0 42 0 [mv_R 50, mv_I c] [] M (mv_I 1) (fun M1 => M1 = M) := by
  refine mv_go' 2 (pc' := if c < 0 then 16 else 4) (ls' := [mv_R 50, mv_I c]) (st' := []) (M1 := M) rfl ?_
  refine mv_ff' (by omega) ?_
  refine mv_go' 3 (pc' := 9) (ls' := [mv_R 50, mv_I c]) (st' := [mv_I (M 50 8), mv_I c]) (M1 := M) rfl ?_
  have hr5 := sp_ok_s8 ho
  rw [show M 50 8 = V 0 8 from by exact sp_c_s8 hV]
  refine mv_go' 1 (pc' := if c < (V 0 8) then 12 else 16) (ls' := [mv_R 50, mv_I c]) (st' := []) (M1 := M) rfl ?_
  refine mv_tt' (by omega) ?_
  refine mv_go' 2 (pc' := 17) (ls' := [mv_R 50, mv_I c]) (st' := [mv_I 1]) (M1 := M) rfl ?_
  exact mv_ret (fun n => rfl) (rfl)
theorem sp_cisChild_f_50 {V M : mv_M} {c : Int} (hV : sp_c 50 M V) (ho : sp_ok V) (h : ¬ (0 ≤ c ∧ c < V 0 8)) : mv_Ru 0 42 0 [mv_R 50, mv_I c] [] M (mv_I 0) (fun M1 => M1 = M) := by
  refine mv_go' 2 (pc' := if c < 0 then 16 else 4) (ls' := [mv_R 50, mv_I c]) (st' := []) (M1 := M) rfl ?_
  refine mv_sp' (fun h1 => ?_) (fun h1 => ?_)
  · refine mv_go' 1 (pc' := 17) (ls' := [mv_R 50, mv_I c]) (st' := [mv_I 0]) (M1 := M) rfl ?_
    exact mv_ret (fun n => rfl) (rfl)
  · refine mv_go' 3 (pc' := 9) (ls' := [mv_R 50, mv_I c]) (st' := [mv_I (M 50 8), mv_I c]) (M1 := M) rfl ?_
    have hr7 := sp_ok_s8 ho
    rw [show M 50 8 = V 0 8 from by exact sp_c_s8 hV]
    refine mv_go' 1 (pc' := if c < (V 0 8) then 12 else 16) (ls' := [mv_R 50, mv_I c]) (st' := []) (M1 := M) rfl ?_
    refine mv_ff' (by omega) ?_
    refine mv_go' 1 (pc' := 17) (ls' := [mv_R 50, mv_I c]) (st' := [mv_I 0]) (M1 := M) rfl ?_
    exact mv_ret (fun n => rfl) (rfl)
theorem sp_cisUncle_t_30 {V M : mv_M} {c : Int} (hV : sp_c 30 M V) (ho : sp_ok V) (h : 0 ≤ c ∧ c < V 0 9) : mv_Ru 0 43 0 [mv_R 30, mv_I c] [] M (mv_I 1) (fun M1 => M1 = M) := by
  refine mv_go' 2 (pc' := if c < 0 then 16 else 4) (ls' := [mv_R 30, mv_I c]) (st' := []) (M1 := M) rfl ?_
  refine mv_ff' (by omega) ?_
  refine mv_go' 3 (pc' := 9) (ls' := [mv_R 30, mv_I c]) (st' := [mv_I (M 30 9), mv_I c]) (M1 := M) rfl ?_
  have hr9 := sp_ok_s9 ho
  rw [show M 30 9 = V 0 9 from by exact sp_c_s9 hV]
  refine mv_go' 1 (pc' := if c < (V 0 9) then 12 else 16) (ls' := [mv_R 30, mv_I c]) (st' := []) (M1 := M) rfl ?_
  refine mv_tt' (by omega) ?_
  refine mv_go' 2 (pc' := 17) (ls' := [mv_R 30, mv_I c]) (st' := [mv_I 1]) (M1 := M) rfl ?_
  exact mv_ret (fun n => rfl) (rfl)
theorem sp_cisUncle_f_30 {V M : mv_M} {c : Int} (hV : sp_c 30 M V) (ho : sp_ok V) (h : ¬ (0 ≤ c ∧ c < V 0 9)) : mv_Ru 0 43 0 [mv_R 30, mv_I c] [] M (mv_I 0) (fun M1 => M1 = M) := by
  refine mv_go' 2 (pc' := if c < 0 then 16 else 4) (ls' := [mv_R 30, mv_I c]) (st' := []) (M1 := M) rfl ?_
  refine mv_sp' (fun h1 => ?_) (fun h1 => ?_)
  · refine mv_go' 1 (pc' := 17) (ls' := [mv_R 30, mv_I c]) (st' := [mv_I 0]) (M1 := M) rfl ?_
    exact mv_ret (fun n => rfl) (rfl)
  · refine mv_go' 3 (pc' := 9) (ls' := [mv_R 30, mv_I c]) (st' := [mv_I (M 30 9), mv_I c]) (M1 := M) rfl ?_
    have hr11 := sp_ok_s9 ho
    rw [show M 30 9 = V 0 9 from by exact sp_c_s9 hV]
    refine mv_go' 1 (pc' := if c < (V 0 9) then 12 else 16) (ls' := [mv_R 30, mv_I c]) (st' := []) (M1 := M) rfl ?_
    refine mv_ff' (by omega) ?_
    refine mv_go' 1 (pc' := 17) (ls' := [mv_R 30, mv_I c]) (st' := [mv_I 0]) (M1 := M) rfl ?_
    exact mv_ret (fun n => rfl) (rfl)
theorem sp_cisUncle_t_50 {V M : mv_M} {c : Int} (hV : sp_c 50 M V) (ho : sp_ok V) (h : 0 ≤ c ∧ c < V 0 9) : mv_Ru 0 43 0 [mv_R 50, mv_I c] [] M (mv_I 1) (fun M1 => M1 = M) := by
  refine mv_go' 2 (pc' := if c < 0 then 16 else 4) (ls' := [mv_R 50, mv_I c]) (st' := []) (M1 := M) rfl ?_
  refine mv_ff' (by omega) ?_
  refine mv_go' 3 (pc' := 9) (ls' := [mv_R 50, mv_I c]) (st' := [mv_I (M 50 9), mv_I c]) (M1 := M) rfl ?_
  have hr13 := sp_ok_s9 ho
  rw [show M 50 9 = V 0 9 from by exact sp_c_s9 hV]
  refine mv_go' 1 (pc' := if c < (V 0 9) then 12 else 16) (ls' := [mv_R 50, mv_I c]) (st' := []) (M1 := M) rfl ?_
  refine mv_tt' (by omega) ?_
  refine mv_go' 2 (pc' := 17) (ls' := [mv_R 50, mv_I c]) (st' := [mv_I 1]) (M1 := M) rfl ?_
  exact mv_ret (fun n => rfl) (rfl)
theorem sp_cisUncle_f_50 {V M : mv_M} {c : Int} (hV : sp_c 50 M V) (ho : sp_ok V) (h : ¬ (0 ≤ c ∧ c < V 0 9)) : mv_Ru 0 43 0 [mv_R 50, mv_I c] [] M (mv_I 0) (fun M1 => M1 = M) := by
  refine mv_go' 2 (pc' := if c < 0 then 16 else 4) (ls' := [mv_R 50, mv_I c]) (st' := []) (M1 := M) rfl ?_
  refine mv_sp' (fun h1 => ?_) (fun h1 => ?_)
  · refine mv_go' 1 (pc' := 17) (ls' := [mv_R 50, mv_I c]) (st' := [mv_I 0]) (M1 := M) rfl ?_
    exact mv_ret (fun n => rfl) (rfl)
  · refine mv_go' 3 (pc' := 9) (ls' := [mv_R 50, mv_I c]) (st' := [mv_I (M 50 9), mv_I c]) (M1 := M) rfl ?_
    have hr15 := sp_ok_s9 ho
    rw [show M 50 9 = V 0 9 from by exact sp_c_s9 hV]
    refine mv_go' 1 (pc' := if c < (V 0 9) then 12 else 16) (ls' := [mv_R 50, mv_I c]) (st' := []) (M1 := M) rfl ?_
    refine mv_ff' (by omega) ?_
    refine mv_go' 1 (pc' := 17) (ls' := [mv_R 50, mv_I c]) (st' := [mv_I 0]) (M1 := M) rfl ?_
    exact mv_ret (fun n => rfl) (rfl)
theorem sp_min_t {M : mv_M} {v a b : Int} (h : a ≤ v ∧ v ≤ b) : mv_Ru 0 112 0 [mv_I v, mv_I a, mv_I b] [] M (mv_I 1) (fun M1 => M1 = M) := by
  refine mv_go' 3 (pc' := if v < a then 14 else 5) (ls' := [mv_I v, mv_I a, mv_I b]) (st' := []) (M1 := M) rfl ?_
  refine mv_ff' (by omega) ?_
  refine mv_go' 3 (pc' := if b < v then 14 else 10) (ls' := [mv_I v, mv_I a, mv_I b]) (st' := []) (M1 := M) rfl ?_
  refine mv_ff' (by omega) ?_
  refine mv_go' 2 (pc' := 15) (ls' := [mv_I v, mv_I a, mv_I b]) (st' := [mv_I 1]) (M1 := M) rfl ?_
  exact mv_ret (fun n => rfl) (rfl)
theorem sp_min_f {M : mv_M} {v a b : Int} (h : ¬ (a ≤ v ∧ v ≤ b)) : mv_Ru 0 112 0 [mv_I v, mv_I a, mv_I b] [] M (mv_I 0) (fun M1 => M1 = M) := by
  refine mv_go' 3 (pc' := if v < a then 14 else 5) (ls' := [mv_I v, mv_I a, mv_I b]) (st' := []) (M1 := M) rfl ?_
  refine mv_sp' (fun h1 => ?_) (fun h1 => ?_)
  · refine mv_go' 1 (pc' := 15) (ls' := [mv_I v, mv_I a, mv_I b]) (st' := [mv_I 0]) (M1 := M) rfl ?_
    exact mv_ret (fun n => rfl) (rfl)
  · refine mv_go' 3 (pc' := if b < v then 14 else 10) (ls' := [mv_I v, mv_I a, mv_I b]) (st' := []) (M1 := M) rfl ?_
    refine mv_tt' (by omega) ?_
    refine mv_go' 1 (pc' := 15) (ls' := [mv_I v, mv_I a, mv_I b]) (st' := [mv_I 0]) (M1 := M) rfl ?_
    exact mv_ret (fun n => rfl) (rfl)
theorem sp_misChild_t {V M : mv_M} {c : Int} (hV : sp_m M V) (ho : sp_ok V) (h : 0 ≤ c ∧ c < V 0 8) : mv_Ru 1 114 0 [mv_R 100, mv_I c] [] M (mv_I 1) (fun M1 => M1 = M) := by
  refine mv_go' 4 (pc' := 6) (ls' := [mv_R 100, mv_I c]) (st' := [mv_I (M 100 0), mv_I 0, mv_I c]) (M1 := M) rfl ?_
  have hr17 := sp_ok_s8 ho
  rw [show M 100 0 = V 0 8 from by exact sp_m_s8 hV]
  refine mv_go' 2 (pc' := 8) (ls' := [mv_R 100, mv_I c]) (st' := [mv_I (mv_w ((V 0 8) - 1)), mv_I 0, mv_I c]) (M1 := M) rfl ?_
  rw [show mv_w ((V 0 8) - 1) = (V 0 8) - 1 from mv_w_id (by omega) (by omega)]
  refine mv_callP (st2 := [mv_I 1]) rfl (Or.inr rfl) rfl rfl rfl (sp_min_t (by omega)) (by first | decide | omega) ?_
  exact mv_ret (fun n => rfl) (rfl)
theorem sp_misChild_f {V M : mv_M} {c : Int} (hV : sp_m M V) (ho : sp_ok V) (h : ¬ (0 ≤ c ∧ c < V 0 8)) : mv_Ru 1 114 0 [mv_R 100, mv_I c] [] M (mv_I 0) (fun M1 => M1 = M) := by
  refine mv_go' 4 (pc' := 6) (ls' := [mv_R 100, mv_I c]) (st' := [mv_I (M 100 0), mv_I 0, mv_I c]) (M1 := M) rfl ?_
  have hr19 := sp_ok_s8 ho
  rw [show M 100 0 = V 0 8 from by exact sp_m_s8 hV]
  refine mv_go' 2 (pc' := 8) (ls' := [mv_R 100, mv_I c]) (st' := [mv_I (mv_w ((V 0 8) - 1)), mv_I 0, mv_I c]) (M1 := M) rfl ?_
  rw [show mv_w ((V 0 8) - 1) = (V 0 8) - 1 from mv_w_id (by omega) (by omega)]
  refine mv_callP (st2 := [mv_I 0]) rfl (Or.inr rfl) rfl rfl rfl (sp_min_f (by omega)) (by first | decide | omega) ?_
  exact mv_ret (fun n => rfl) (rfl)
theorem sp_misUncle_t {V M : mv_M} {c : Int} (hV : sp_m M V) (ho : sp_ok V) (h : 0 ≤ c ∧ c < V 0 9) : mv_Ru 1 115 0 [mv_R 100, mv_I c] [] M (mv_I 1) (fun M1 => M1 = M) := by
  refine mv_go' 4 (pc' := 6) (ls' := [mv_R 100, mv_I c]) (st' := [mv_I (M 100 1), mv_I 0, mv_I c]) (M1 := M) rfl ?_
  have hr21 := sp_ok_s9 ho
  rw [show M 100 1 = V 0 9 from by exact sp_m_s9 hV]
  refine mv_go' 2 (pc' := 8) (ls' := [mv_R 100, mv_I c]) (st' := [mv_I (mv_w ((V 0 9) - 1)), mv_I 0, mv_I c]) (M1 := M) rfl ?_
  rw [show mv_w ((V 0 9) - 1) = (V 0 9) - 1 from mv_w_id (by omega) (by omega)]
  refine mv_callP (st2 := [mv_I 1]) rfl (Or.inr rfl) rfl rfl rfl (sp_min_t (by omega)) (by first | decide | omega) ?_
  exact mv_ret (fun n => rfl) (rfl)
theorem sp_misUncle_f {V M : mv_M} {c : Int} (hV : sp_m M V) (ho : sp_ok V) (h : ¬ (0 ≤ c ∧ c < V 0 9)) : mv_Ru 1 115 0 [mv_R 100, mv_I c] [] M (mv_I 0) (fun M1 => M1 = M) := by
  refine mv_go' 4 (pc' := 6) (ls' := [mv_R 100, mv_I c]) (st' := [mv_I (M 100 1), mv_I 0, mv_I c]) (M1 := M) rfl ?_
  have hr23 := sp_ok_s9 ho
  rw [show M 100 1 = V 0 9 from by exact sp_m_s9 hV]
  refine mv_go' 2 (pc' := 8) (ls' := [mv_R 100, mv_I c]) (st' := [mv_I (mv_w ((V 0 9) - 1)), mv_I 0, mv_I c]) (M1 := M) rfl ?_
  rw [show mv_w ((V 0 9) - 1) = (V 0 9) - 1 from mv_w_id (by omega) (by omega)]
  refine mv_callP (st2 := [mv_I 0]) rfl (Or.inr rfl) rfl rfl rfl (sp_min_f (by omega)) (by first | decide | omega) ?_
  exact mv_ret (fun n => rfl) (rfl)
theorem sp_croom {V M : mv_M} {u : Nat} (hV : sp_c 30 M V) (ho : sp_ok V) (hu : (u : Int) < V 0 9) : mv_Ru 0 48 0 [mv_R 30, mv_I (u : Int)] [] M (mv_I (sp_room V u)) (fun M1 => M1 = M) := by
  have h9 := sp_ok_s9 ho
  have h4 := sp_ok_4 ho u hu
  have h5 := sp_ok_5 ho u hu
  have hd := sp_t5 h5.1 h5.2
  have hm := sp_tm (sp_ok_s10 ho).1
  refine mv_go' 4 (pc' := if 0 ≤ (u : Int) ∧ (u : Int) < 6 then 6 else mv_bad) (ls' := [mv_R 30, mv_I (u : Int)]) (st' := [mv_I (M 34 u)]) (M1 := M) rfl ?_
  refine mv_tt' (by first | omega | decide) ?_
  have hr25 := sp_ok_4 ho u (by omega)
  rw [show M 34 u = V 4 u from by exact sp_c_4 hV u (by omega)]
  refine mv_go' 1 (pc' := mv_swg [(1, 40), (2, 86), (3, 51), (4, 86), (5, 64)] 86 (V 4 u)) (ls' := [mv_R 30, mv_I (u : Int)]) (st' := []) (M1 := M) rfl ?_
  rcases (by omega : V 4 u = 0 ∨ V 4 u = 1 ∨ V 4 u = 2 ∨ V 4 u = 3 ∨ V 4 u = 4 ∨ V 4 u = 5) with e | e | e | e | e | e
  · refine mv_pcq (pc2 := 86) (by rw [e]; rfl) ?_
    refine mv_go' 1 (pc' := 87) (ls' := [mv_R 30, mv_I (u : Int)]) (st' := [mv_I 1]) (M1 := M) rfl ?_
    exact mv_Ru.val (mv_ret (fun n => rfl) (rfl)) (congrArg mv_I (by simp [sp_room, e]))
  · refine mv_pcq (pc2 := 40) (by rw [e]; rfl) ?_
    refine mv_go' 5 (pc' := if 0 ≤ (u : Int) ∧ (u : Int) < 6 then 47 else mv_bad) (ls' := [mv_R 30, mv_I (u : Int)]) (st' := [mv_I (M 35 u), mv_I 1]) (M1 := M) rfl ?_
    refine mv_tt' (by first | omega | decide) ?_
    have hr27 := sp_ok_5 ho u (by omega)
    rw [show M 35 u = V 5 u from by exact sp_c_5 hV u (by omega)]
    refine mv_go' 2 (pc' := if 5 = 0 then mv_bad else 49) (ls' := [mv_R 30, mv_I (u : Int)]) (st' := [mv_I (mv_w ((V 5 u).tdiv 5)), mv_I 1]) (M1 := M) rfl ?_
    refine mv_ff' (by first | omega | decide) ?_
    refine mv_go' 1 (pc' := 50) (ls' := [mv_R 30, mv_I (u : Int)]) (st' := [mv_I (mv_w (1 + (mv_w ((V 5 u).tdiv 5))))]) (M1 := M) rfl ?_
    rw [show mv_w ((V 5 u).tdiv 5) = (V 5 u).tdiv 5 from mv_w_id (by omega) (by omega)]
    rw [show mv_w (1 + ((V 5 u).tdiv 5)) = 1 + ((V 5 u).tdiv 5) from mv_w_id (by omega) (by omega)]
    exact mv_Ru.val (mv_ret (fun n => rfl) (rfl)) (congrArg mv_I (by simp [sp_room, e]))
  · refine mv_pcq (pc2 := 86) (by rw [e]; rfl) ?_
    refine mv_go' 1 (pc' := 87) (ls' := [mv_R 30, mv_I (u : Int)]) (st' := [mv_I 1]) (M1 := M) rfl ?_
    exact mv_Ru.val (mv_ret (fun n => rfl) (rfl)) (congrArg mv_I (by simp [sp_room, e]))
  · refine mv_pcq (pc2 := 51) (by rw [e]; rfl) ?_
    refine mv_go' 5 (pc' := if 0 ≤ (u : Int) ∧ (u : Int) < 6 then 58 else mv_bad) (ls' := [mv_R 30, mv_I (u : Int)]) (st' := [mv_I (M 35 u), mv_I 1]) (M1 := M) rfl ?_
    refine mv_tt' (by first | omega | decide) ?_
    have hr29 := sp_ok_5 ho u (by omega)
    rw [show M 35 u = V 5 u from by exact sp_c_5 hV u (by omega)]
    refine mv_go' 2 (pc' := if 5 = 0 then mv_bad else 60) (ls' := [mv_R 30, mv_I (u : Int)]) (st' := [mv_I (mv_w ((V 5 u).tdiv 5)), mv_I 1]) (M1 := M) rfl ?_
    refine mv_ff' (by first | omega | decide) ?_
    refine mv_go' 3 (pc' := 63) (ls' := [mv_R 30, mv_I (u : Int)]) (st' := [mv_I (mv_w ((mv_w (1 + (mv_w ((V 5 u).tdiv 5)))) + 2))]) (M1 := M) rfl ?_
    rw [show mv_w ((V 5 u).tdiv 5) = (V 5 u).tdiv 5 from mv_w_id (by omega) (by omega)]
    rw [show mv_w (1 + ((V 5 u).tdiv 5)) = 1 + ((V 5 u).tdiv 5) from mv_w_id (by omega) (by omega)]
    rw [show mv_w ((1 + ((V 5 u).tdiv 5)) + 2) = (1 + ((V 5 u).tdiv 5)) + 2 from mv_w_id (by omega) (by omega)]
    exact mv_Ru.val (mv_ret (fun n => rfl) (rfl)) (congrArg mv_I (by simp [sp_room, e] <;> omega))
  · refine mv_pcq (pc2 := 86) (by rw [e]; rfl) ?_
    refine mv_go' 1 (pc' := 87) (ls' := [mv_R 30, mv_I (u : Int)]) (st' := [mv_I 1]) (M1 := M) rfl ?_
    exact mv_Ru.val (mv_ret (fun n => rfl) (rfl)) (congrArg mv_I (by simp [sp_room, e]))
  · refine mv_pcq (pc2 := 64) (by rw [e]; rfl) ?_
    refine mv_go' 2 (pc' := 68) (ls' := [mv_R 30, mv_I (u : Int)]) (st' := [mv_I (M 30 10)]) (M1 := M) rfl ?_
    have hr31 := sp_ok_s10 ho
    rw [show M 30 10 = V 0 10 from by exact sp_c_s10 hV]
    refine mv_go' 2 (pc' := if 10 = 0 then mv_bad else 71) (ls' := [mv_R 30, mv_I (u : Int)]) (st' := [mv_I (mv_w ((V 0 10).tmod 10))]) (M1 := M) rfl ?_
    refine mv_ff' (by first | omega | decide) ?_
    refine mv_go' 4 (pc' := if 0 ≤ (u : Int) ∧ (u : Int) < 6 then 77 else mv_bad) (ls' := [mv_R 30, mv_I (u : Int)]) (st' := [mv_I (M 35 u), mv_I (mv_w ((V 0 10).tmod 10))]) (M1 := M) rfl ?_
    refine mv_tt' (by first | omega | decide) ?_
    have hr33 := sp_ok_5 ho u (by omega)
    rw [show M 35 u = V 5 u from by exact sp_c_5 hV u (by omega)]
    refine mv_go' 1 (pc' := if (mv_w ((V 0 10).tmod 10)) = (V 5 u) then 80 else 84) (ls' := [mv_R 30, mv_I (u : Int)]) (st' := []) (M1 := M) rfl ?_
    rw [show mv_w ((V 0 10).tmod 10) = (V 0 10).tmod 10 from mv_w_id (by omega) (by omega)]
    refine mv_sp' (fun h1 => ?_) (fun h1 => ?_)
    · refine mv_go' 2 (pc' := 85) (ls' := [mv_R 30, mv_I (u : Int)]) (st' := [mv_I 0]) (M1 := M) rfl ?_
      exact mv_Ru.val (mv_ret (fun n => rfl) (rfl)) (congrArg mv_I (by simp [sp_room, e, h1]))
    · refine mv_go' 1 (pc' := 85) (ls' := [mv_R 30, mv_I (u : Int)]) (st' := [mv_I 1]) (M1 := M) rfl ?_
      exact mv_Ru.val (mv_ret (fun n => rfl) (rfl)) (congrArg mv_I (by simp [sp_room, e, h1]))
theorem sp_mroom {V M : mv_M} {u : Nat} (hV : sp_m M V) (ho : sp_ok V) (hu : (u : Int) < V 0 9) : mv_Ru 0 144 0 [mv_R 100, mv_I (u : Int)] [] M (mv_I (sp_room V u)) (fun M1 => M1 = M) := by
  have h9 := sp_ok_s9 ho
  have h4 := sp_ok_4 ho u hu
  have h5 := sp_ok_5 ho u hu
  have hd := sp_t5 h5.1 h5.2
  have hm := sp_tm (sp_ok_s10 ho).1
  refine mv_go' 4 (pc' := if 0 ≤ (u : Int) ∧ (u : Int) < 6 then 6 else mv_bad) (ls' := [mv_R 100, mv_I (u : Int)]) (st' := [mv_I (M 102 u)]) (M1 := M) rfl ?_
  refine mv_tt' (by first | omega | decide) ?_
  have hr35 := sp_ok_4 ho u (by omega)
  rw [show M 102 u = V 4 u from by exact sp_m_4 hV u (by omega)]
  refine mv_go' 1 (pc' := mv_swg [(1, 40), (2, 84), (3, 51), (4, 84), (5, 62)] 84 (V 4 u)) (ls' := [mv_R 100, mv_I (u : Int)]) (st' := []) (M1 := M) rfl ?_
  rcases (by omega : V 4 u = 0 ∨ V 4 u = 1 ∨ V 4 u = 2 ∨ V 4 u = 3 ∨ V 4 u = 4 ∨ V 4 u = 5) with e | e | e | e | e | e
  · refine mv_pcq (pc2 := 84) (by rw [e]; rfl) ?_
    refine mv_go' 1 (pc' := 85) (ls' := [mv_R 100, mv_I (u : Int)]) (st' := [mv_I 1]) (M1 := M) rfl ?_
    exact mv_Ru.val (mv_ret (fun n => rfl) (rfl)) (congrArg mv_I (by simp [sp_room, e]))
  · refine mv_pcq (pc2 := 40) (by rw [e]; rfl) ?_
    refine mv_go' 5 (pc' := if 0 ≤ (u : Int) ∧ (u : Int) < 6 then 47 else mv_bad) (ls' := [mv_R 100, mv_I (u : Int)]) (st' := [mv_I (M 103 u), mv_I 1]) (M1 := M) rfl ?_
    refine mv_tt' (by first | omega | decide) ?_
    have hr37 := sp_ok_5 ho u (by omega)
    rw [show M 103 u = V 5 u from by exact sp_m_5 hV u (by omega)]
    refine mv_go' 2 (pc' := if 5 = 0 then mv_bad else 49) (ls' := [mv_R 100, mv_I (u : Int)]) (st' := [mv_I (mv_w ((V 5 u).tdiv 5)), mv_I 1]) (M1 := M) rfl ?_
    refine mv_ff' (by first | omega | decide) ?_
    refine mv_go' 1 (pc' := 50) (ls' := [mv_R 100, mv_I (u : Int)]) (st' := [mv_I (mv_w (1 + (mv_w ((V 5 u).tdiv 5))))]) (M1 := M) rfl ?_
    rw [show mv_w ((V 5 u).tdiv 5) = (V 5 u).tdiv 5 from mv_w_id (by omega) (by omega)]
    rw [show mv_w (1 + ((V 5 u).tdiv 5)) = 1 + ((V 5 u).tdiv 5) from mv_w_id (by omega) (by omega)]
    exact mv_Ru.val (mv_ret (fun n => rfl) (rfl)) (congrArg mv_I (by simp [sp_room, e]))
  · refine mv_pcq (pc2 := 84) (by rw [e]; rfl) ?_
    refine mv_go' 1 (pc' := 85) (ls' := [mv_R 100, mv_I (u : Int)]) (st' := [mv_I 1]) (M1 := M) rfl ?_
    exact mv_Ru.val (mv_ret (fun n => rfl) (rfl)) (congrArg mv_I (by simp [sp_room, e]))
  · refine mv_pcq (pc2 := 51) (by rw [e]; rfl) ?_
    refine mv_go' 5 (pc' := if 0 ≤ (u : Int) ∧ (u : Int) < 6 then 58 else mv_bad) (ls' := [mv_R 100, mv_I (u : Int)]) (st' := [mv_I (M 103 u), mv_I 3]) (M1 := M) rfl ?_
    refine mv_tt' (by first | omega | decide) ?_
    have hr39 := sp_ok_5 ho u (by omega)
    rw [show M 103 u = V 5 u from by exact sp_m_5 hV u (by omega)]
    refine mv_go' 2 (pc' := if 5 = 0 then mv_bad else 60) (ls' := [mv_R 100, mv_I (u : Int)]) (st' := [mv_I (mv_w ((V 5 u).tdiv 5)), mv_I 3]) (M1 := M) rfl ?_
    refine mv_ff' (by first | omega | decide) ?_
    refine mv_go' 1 (pc' := 61) (ls' := [mv_R 100, mv_I (u : Int)]) (st' := [mv_I (mv_w (3 + (mv_w ((V 5 u).tdiv 5))))]) (M1 := M) rfl ?_
    rw [show mv_w ((V 5 u).tdiv 5) = (V 5 u).tdiv 5 from mv_w_id (by omega) (by omega)]
    rw [show mv_w (3 + ((V 5 u).tdiv 5)) = 3 + ((V 5 u).tdiv 5) from mv_w_id (by omega) (by omega)]
    exact mv_Ru.val (mv_ret (fun n => rfl) (rfl)) (congrArg mv_I (by simp [sp_room, e] <;> omega))
  · refine mv_pcq (pc2 := 84) (by rw [e]; rfl) ?_
    refine mv_go' 1 (pc' := 85) (ls' := [mv_R 100, mv_I (u : Int)]) (st' := [mv_I 1]) (M1 := M) rfl ?_
    exact mv_Ru.val (mv_ret (fun n => rfl) (rfl)) (congrArg mv_I (by simp [sp_room, e]))
  · refine mv_pcq (pc2 := 62) (by rw [e]; rfl) ?_
    refine mv_go' 2 (pc' := 66) (ls' := [mv_R 100, mv_I (u : Int)]) (st' := [mv_I (M 100 7)]) (M1 := M) rfl ?_
    have hr41 := sp_ok_s10 ho
    rw [show M 100 7 = V 0 10 from by exact sp_m_s10 hV]
    refine mv_go' 2 (pc' := if 10 = 0 then mv_bad else 69) (ls' := [mv_R 100, mv_I (u : Int)]) (st' := [mv_I (mv_w ((V 0 10).tmod 10))]) (M1 := M) rfl ?_
    refine mv_ff' (by first | omega | decide) ?_
    refine mv_go' 4 (pc' := if 0 ≤ (u : Int) ∧ (u : Int) < 6 then 75 else mv_bad) (ls' := [mv_R 100, mv_I (u : Int)]) (st' := [mv_I (M 103 u), mv_I (mv_w ((V 0 10).tmod 10))]) (M1 := M) rfl ?_
    refine mv_tt' (by first | omega | decide) ?_
    have hr43 := sp_ok_5 ho u (by omega)
    rw [show M 103 u = V 5 u from by exact sp_m_5 hV u (by omega)]
    refine mv_go' 1 (pc' := if (mv_w ((V 0 10).tmod 10)) = (V 5 u) then 78 else 82) (ls' := [mv_R 100, mv_I (u : Int)]) (st' := []) (M1 := M) rfl ?_
    rw [show mv_w ((V 0 10).tmod 10) = (V 0 10).tmod 10 from mv_w_id (by omega) (by omega)]
    refine mv_sp' (fun h1 => ?_) (fun h1 => ?_)
    · refine mv_go' 2 (pc' := 83) (ls' := [mv_R 100, mv_I (u : Int)]) (st' := [mv_I 0]) (M1 := M) rfl ?_
      exact mv_Ru.val (mv_ret (fun n => rfl) (rfl)) (congrArg mv_I (by simp [sp_room, e, h1]))
    · refine mv_go' 1 (pc' := 83) (ls' := [mv_R 100, mv_I (u : Int)]) (st' := [mv_I 1]) (M1 := M) rfl ?_
      exact mv_Ru.val (mv_ret (fun n => rfl) (rfl)) (congrArg mv_I (by simp [sp_room, e, h1]))
theorem sp_cdg31 {M : mv_M} {f : Nat → Int} {c : Nat} (hf : ∀ j, j < 24 → M 31 j = f j ∧ 0 ≤ f j ∧ f j ≤ 9) (hc : c < 6) : mv_Ru 0 107 0 [mv_R 31, mv_I (c : Int), mv_U, mv_U] [] M (mv_I (sp_dg f c)) (fun M1 => M1 = M) := by
  have h0 := hf (4 * c) (by omega)
  have h1 := hf (4 * c + 1) (by omega)
  have h2 := hf (4 * c + 2) (by omega)
  have h3 := hf (4 * c + 3) (by omega)
  refine mv_go' 4 (pc' := 4) (ls' := [mv_R 31, mv_I (c : Int), mv_I 0, mv_I 0]) (st' := []) (M1 := M) rfl ?_
  refine mv_go' 3 (pc' := if 0 < 4 then 9 else 28) (ls' := [mv_R 31, mv_I (c : Int), mv_I 0, mv_I 0]) (st' := []) (M1 := M) rfl ?_
  refine mv_tt' (by decide) ?_
  refine mv_go' 9 (pc' := 19) (ls' := [mv_R 31, mv_I (c : Int), mv_I 0, mv_I 0]) (st' := [mv_I (mv_w ((mv_w ((c : Int) * 4)) + 0)), mv_R 31, mv_I (mv_w (0 * 10))]) (M1 := M) rfl ?_
  rw [show mv_w ((mv_w ((c : Int) * 4)) + 0) = ((4 * c : Nat) : Int) from by (rw [show mv_w ((c : Int) * 4) = (c : Int) * 4 from mv_w_id (by omega) (by omega), show mv_w (((c : Int) * 4) + 0) = ((c : Int) * 4) + 0 from mv_w_id (by omega) (by omega)]) <;> omega]
  refine mv_go' 1 (pc' := if 0 ≤ ((4 * c : Nat) : Int) ∧ ((4 * c : Nat) : Int) < 24 then 20 else mv_bad) (ls' := [mv_R 31, mv_I (c : Int), mv_I 0, mv_I 0]) (st' := [mv_I (M 31 (4 * c)), mv_I (mv_w (0 * 10))]) (M1 := M) rfl ?_
  refine mv_tt' (by omega) ?_
  rw [show M 31 (4 * c) = f (4 * c) from by exact h0.1]
  refine mv_go' 4 (pc' := 4) (ls' := [mv_R 31, mv_I (c : Int), mv_I (mv_w ((mv_w (0 * 10)) + (f (4 * c)))), mv_I (mv_w (0 + 1))]) (st' := []) (M1 := M) rfl ?_
  rw [show mv_w (0 + 1) = 1 from by (rw [show mv_w (0 + 1) = 0 + 1 from mv_w_id (by omega) (by omega)]) <;> omega]
  rw [show mv_w (0 * 10) = 0 * 10 from mv_w_id (by omega) (by omega)]
  rw [show mv_w ((0 * 10) + (f (4 * c))) = (0 * 10) + (f (4 * c)) from mv_w_id (by omega) (by omega)]
  refine mv_go' 3 (pc' := if 1 < 4 then 9 else 28) (ls' := [mv_R 31, mv_I (c : Int), mv_I ((0 * 10) + (f (4 * c))), mv_I 1]) (st' := []) (M1 := M) rfl ?_
  refine mv_tt' (by decide) ?_
  refine mv_go' 9 (pc' := 19) (ls' := [mv_R 31, mv_I (c : Int), mv_I ((0 * 10) + (f (4 * c))), mv_I 1]) (st' := [mv_I (mv_w ((mv_w ((c : Int) * 4)) + 1)), mv_R 31, mv_I (mv_w (((0 * 10) + (f (4 * c))) * 10))]) (M1 := M) rfl ?_
  rw [show mv_w ((mv_w ((c : Int) * 4)) + 1) = ((4 * c + 1 : Nat) : Int) from by (rw [show mv_w ((c : Int) * 4) = (c : Int) * 4 from mv_w_id (by omega) (by omega), show mv_w (((c : Int) * 4) + 1) = ((c : Int) * 4) + 1 from mv_w_id (by omega) (by omega)]) <;> omega]
  refine mv_go' 1 (pc' := if 0 ≤ ((4 * c + 1 : Nat) : Int) ∧ ((4 * c + 1 : Nat) : Int) < 24 then 20 else mv_bad) (ls' := [mv_R 31, mv_I (c : Int), mv_I ((0 * 10) + (f (4 * c))), mv_I 1]) (st' := [mv_I (M 31 (4 * c + 1)), mv_I (mv_w (((0 * 10) + (f (4 * c))) * 10))]) (M1 := M) rfl ?_
  refine mv_tt' (by omega) ?_
  rw [show M 31 (4 * c + 1) = f (4 * c + 1) from by exact h1.1]
  refine mv_go' 4 (pc' := 4) (ls' := [mv_R 31, mv_I (c : Int), mv_I (mv_w ((mv_w (((0 * 10) + (f (4 * c))) * 10)) + (f (4 * c + 1)))), mv_I (mv_w (1 + 1))]) (st' := []) (M1 := M) rfl ?_
  rw [show mv_w (1 + 1) = 2 from by (rw [show mv_w (1 + 1) = 1 + 1 from mv_w_id (by omega) (by omega)]) <;> omega]
  rw [show mv_w (((0 * 10) + (f (4 * c))) * 10) = ((0 * 10) + (f (4 * c))) * 10 from mv_w_id (by omega) (by omega)]
  rw [show mv_w ((((0 * 10) + (f (4 * c))) * 10) + (f (4 * c + 1))) = (((0 * 10) + (f (4 * c))) * 10) + (f (4 * c + 1)) from mv_w_id (by omega) (by omega)]
  refine mv_go' 3 (pc' := if 2 < 4 then 9 else 28) (ls' := [mv_R 31, mv_I (c : Int), mv_I ((((0 * 10) + (f (4 * c))) * 10) + (f (4 * c + 1))), mv_I 2]) (st' := []) (M1 := M) rfl ?_
  refine mv_tt' (by decide) ?_
  refine mv_go' 9 (pc' := 19) (ls' := [mv_R 31, mv_I (c : Int), mv_I ((((0 * 10) + (f (4 * c))) * 10) + (f (4 * c + 1))), mv_I 2]) (st' := [mv_I (mv_w ((mv_w ((c : Int) * 4)) + 2)), mv_R 31, mv_I (mv_w (((((0 * 10) + (f (4 * c))) * 10) + (f (4 * c + 1))) * 10))]) (M1 := M) rfl ?_
  rw [show mv_w ((mv_w ((c : Int) * 4)) + 2) = ((4 * c + 2 : Nat) : Int) from by (rw [show mv_w ((c : Int) * 4) = (c : Int) * 4 from mv_w_id (by omega) (by omega), show mv_w (((c : Int) * 4) + 2) = ((c : Int) * 4) + 2 from mv_w_id (by omega) (by omega)]) <;> omega]
  refine mv_go' 1 (pc' := if 0 ≤ ((4 * c + 2 : Nat) : Int) ∧ ((4 * c + 2 : Nat) : Int) < 24 then 20 else mv_bad) (ls' := [mv_R 31, mv_I (c : Int), mv_I ((((0 * 10) + (f (4 * c))) * 10) + (f (4 * c + 1))), mv_I 2]) (st' := [mv_I (M 31 (4 * c + 2)), mv_I (mv_w (((((0 * 10) + (f (4 * c))) * 10) + (f (4 * c + 1))) * 10))]) (M1 := M) rfl ?_
  refine mv_tt' (by omega) ?_
  rw [show M 31 (4 * c + 2) = f (4 * c + 2) from by exact h2.1]
  refine mv_go' 4 (pc' := 4) (ls' := [mv_R 31, mv_I (c : Int), mv_I (mv_w ((mv_w (((((0 * 10) + (f (4 * c))) * 10) + (f (4 * c + 1))) * 10)) + (f (4 * c + 2)))), mv_I (mv_w (2 + 1))]) (st' := []) (M1 := M) rfl ?_
  rw [show mv_w (2 + 1) = 3 from by (rw [show mv_w (2 + 1) = 2 + 1 from mv_w_id (by omega) (by omega)]) <;> omega]
  rw [show mv_w (((((0 * 10) + (f (4 * c))) * 10) + (f (4 * c + 1))) * 10) = ((((0 * 10) + (f (4 * c))) * 10) + (f (4 * c + 1))) * 10 from mv_w_id (by omega) (by omega)]
  rw [show mv_w ((((((0 * 10) + (f (4 * c))) * 10) + (f (4 * c + 1))) * 10) + (f (4 * c + 2))) = (((((0 * 10) + (f (4 * c))) * 10) + (f (4 * c + 1))) * 10) + (f (4 * c + 2)) from mv_w_id (by omega) (by omega)]
  refine mv_go' 3 (pc' := if 3 < 4 then 9 else 28) (ls' := [mv_R 31, mv_I (c : Int), mv_I ((((((0 * 10) + (f (4 * c))) * 10) + (f (4 * c + 1))) * 10) + (f (4 * c + 2))), mv_I 3]) (st' := []) (M1 := M) rfl ?_
  refine mv_tt' (by decide) ?_
  refine mv_go' 9 (pc' := 19) (ls' := [mv_R 31, mv_I (c : Int), mv_I ((((((0 * 10) + (f (4 * c))) * 10) + (f (4 * c + 1))) * 10) + (f (4 * c + 2))), mv_I 3]) (st' := [mv_I (mv_w ((mv_w ((c : Int) * 4)) + 3)), mv_R 31, mv_I (mv_w (((((((0 * 10) + (f (4 * c))) * 10) + (f (4 * c + 1))) * 10) + (f (4 * c + 2))) * 10))]) (M1 := M) rfl ?_
  rw [show mv_w ((mv_w ((c : Int) * 4)) + 3) = ((4 * c + 3 : Nat) : Int) from by (rw [show mv_w ((c : Int) * 4) = (c : Int) * 4 from mv_w_id (by omega) (by omega), show mv_w (((c : Int) * 4) + 3) = ((c : Int) * 4) + 3 from mv_w_id (by omega) (by omega)]) <;> omega]
  refine mv_go' 1 (pc' := if 0 ≤ ((4 * c + 3 : Nat) : Int) ∧ ((4 * c + 3 : Nat) : Int) < 24 then 20 else mv_bad) (ls' := [mv_R 31, mv_I (c : Int), mv_I ((((((0 * 10) + (f (4 * c))) * 10) + (f (4 * c + 1))) * 10) + (f (4 * c + 2))), mv_I 3]) (st' := [mv_I (M 31 (4 * c + 3)), mv_I (mv_w (((((((0 * 10) + (f (4 * c))) * 10) + (f (4 * c + 1))) * 10) + (f (4 * c + 2))) * 10))]) (M1 := M) rfl ?_
  refine mv_tt' (by omega) ?_
  rw [show M 31 (4 * c + 3) = f (4 * c + 3) from by exact h3.1]
  refine mv_go' 4 (pc' := 4) (ls' := [mv_R 31, mv_I (c : Int), mv_I (mv_w ((mv_w (((((((0 * 10) + (f (4 * c))) * 10) + (f (4 * c + 1))) * 10) + (f (4 * c + 2))) * 10)) + (f (4 * c + 3)))), mv_I (mv_w (3 + 1))]) (st' := []) (M1 := M) rfl ?_
  rw [show mv_w (3 + 1) = 4 from by (rw [show mv_w (3 + 1) = 3 + 1 from mv_w_id (by omega) (by omega)]) <;> omega]
  rw [show mv_w (((((((0 * 10) + (f (4 * c))) * 10) + (f (4 * c + 1))) * 10) + (f (4 * c + 2))) * 10) = ((((((0 * 10) + (f (4 * c))) * 10) + (f (4 * c + 1))) * 10) + (f (4 * c + 2))) * 10 from mv_w_id (by omega) (by omega)]
  rw [show mv_w ((((((((0 * 10) + (f (4 * c))) * 10) + (f (4 * c + 1))) * 10) + (f (4 * c + 2))) * 10) + (f (4 * c + 3))) = (((((((0 * 10) + (f (4 * c))) * 10) + (f (4 * c + 1))) * 10) + (f (4 * c + 2))) * 10) + (f (4 * c + 3)) from mv_w_id (by omega) (by omega)]
  refine mv_go' 3 (pc' := if 4 < 4 then 9 else 28) (ls' := [mv_R 31, mv_I (c : Int), mv_I ((((((((0 * 10) + (f (4 * c))) * 10) + (f (4 * c + 1))) * 10) + (f (4 * c + 2))) * 10) + (f (4 * c + 3))), mv_I 4]) (st' := []) (M1 := M) rfl ?_
  refine mv_ff' (by decide) ?_
  refine mv_go' 1 (pc' := 29) (ls' := [mv_R 31, mv_I (c : Int), mv_I ((((((((0 * 10) + (f (4 * c))) * 10) + (f (4 * c + 1))) * 10) + (f (4 * c + 2))) * 10) + (f (4 * c + 3))), mv_I 4]) (st' := [mv_I ((((((((0 * 10) + (f (4 * c))) * 10) + (f (4 * c + 1))) * 10) + (f (4 * c + 2))) * 10) + (f (4 * c + 3)))]) (M1 := M) rfl ?_
  exact mv_Ru.val (mv_ret (fun n => rfl) (rfl)) (congrArg mv_I (by unfold sp_dg; omega))
theorem sp_cdg33 {M : mv_M} {f : Nat → Int} {c : Nat} (hf : ∀ j, j < 24 → M 33 j = f j ∧ 0 ≤ f j ∧ f j ≤ 9) (hc : c < 6) : mv_Ru 0 107 0 [mv_R 33, mv_I (c : Int), mv_U, mv_U] [] M (mv_I (sp_dg f c)) (fun M1 => M1 = M) := by
  have h0 := hf (4 * c) (by omega)
  have h1 := hf (4 * c + 1) (by omega)
  have h2 := hf (4 * c + 2) (by omega)
  have h3 := hf (4 * c + 3) (by omega)
  refine mv_go' 4 (pc' := 4) (ls' := [mv_R 33, mv_I (c : Int), mv_I 0, mv_I 0]) (st' := []) (M1 := M) rfl ?_
  refine mv_go' 3 (pc' := if 0 < 4 then 9 else 28) (ls' := [mv_R 33, mv_I (c : Int), mv_I 0, mv_I 0]) (st' := []) (M1 := M) rfl ?_
  refine mv_tt' (by decide) ?_
  refine mv_go' 9 (pc' := 19) (ls' := [mv_R 33, mv_I (c : Int), mv_I 0, mv_I 0]) (st' := [mv_I (mv_w ((mv_w ((c : Int) * 4)) + 0)), mv_R 33, mv_I (mv_w (0 * 10))]) (M1 := M) rfl ?_
  rw [show mv_w ((mv_w ((c : Int) * 4)) + 0) = ((4 * c : Nat) : Int) from by (rw [show mv_w ((c : Int) * 4) = (c : Int) * 4 from mv_w_id (by omega) (by omega), show mv_w (((c : Int) * 4) + 0) = ((c : Int) * 4) + 0 from mv_w_id (by omega) (by omega)]) <;> omega]
  refine mv_go' 1 (pc' := if 0 ≤ ((4 * c : Nat) : Int) ∧ ((4 * c : Nat) : Int) < 24 then 20 else mv_bad) (ls' := [mv_R 33, mv_I (c : Int), mv_I 0, mv_I 0]) (st' := [mv_I (M 33 (4 * c)), mv_I (mv_w (0 * 10))]) (M1 := M) rfl ?_
  refine mv_tt' (by omega) ?_
  rw [show M 33 (4 * c) = f (4 * c) from by exact h0.1]
  refine mv_go' 4 (pc' := 4) (ls' := [mv_R 33, mv_I (c : Int), mv_I (mv_w ((mv_w (0 * 10)) + (f (4 * c)))), mv_I (mv_w (0 + 1))]) (st' := []) (M1 := M) rfl ?_
  rw [show mv_w (0 + 1) = 1 from by (rw [show mv_w (0 + 1) = 0 + 1 from mv_w_id (by omega) (by omega)]) <;> omega]
  rw [show mv_w (0 * 10) = 0 * 10 from mv_w_id (by omega) (by omega)]
  rw [show mv_w ((0 * 10) + (f (4 * c))) = (0 * 10) + (f (4 * c)) from mv_w_id (by omega) (by omega)]
  refine mv_go' 3 (pc' := if 1 < 4 then 9 else 28) (ls' := [mv_R 33, mv_I (c : Int), mv_I ((0 * 10) + (f (4 * c))), mv_I 1]) (st' := []) (M1 := M) rfl ?_
  refine mv_tt' (by decide) ?_
  refine mv_go' 9 (pc' := 19) (ls' := [mv_R 33, mv_I (c : Int), mv_I ((0 * 10) + (f (4 * c))), mv_I 1]) (st' := [mv_I (mv_w ((mv_w ((c : Int) * 4)) + 1)), mv_R 33, mv_I (mv_w (((0 * 10) + (f (4 * c))) * 10))]) (M1 := M) rfl ?_
  rw [show mv_w ((mv_w ((c : Int) * 4)) + 1) = ((4 * c + 1 : Nat) : Int) from by (rw [show mv_w ((c : Int) * 4) = (c : Int) * 4 from mv_w_id (by omega) (by omega), show mv_w (((c : Int) * 4) + 1) = ((c : Int) * 4) + 1 from mv_w_id (by omega) (by omega)]) <;> omega]
  refine mv_go' 1 (pc' := if 0 ≤ ((4 * c + 1 : Nat) : Int) ∧ ((4 * c + 1 : Nat) : Int) < 24 then 20 else mv_bad) (ls' := [mv_R 33, mv_I (c : Int), mv_I ((0 * 10) + (f (4 * c))), mv_I 1]) (st' := [mv_I (M 33 (4 * c + 1)), mv_I (mv_w (((0 * 10) + (f (4 * c))) * 10))]) (M1 := M) rfl ?_
  refine mv_tt' (by omega) ?_
  rw [show M 33 (4 * c + 1) = f (4 * c + 1) from by exact h1.1]
  refine mv_go' 4 (pc' := 4) (ls' := [mv_R 33, mv_I (c : Int), mv_I (mv_w ((mv_w (((0 * 10) + (f (4 * c))) * 10)) + (f (4 * c + 1)))), mv_I (mv_w (1 + 1))]) (st' := []) (M1 := M) rfl ?_
  rw [show mv_w (1 + 1) = 2 from by (rw [show mv_w (1 + 1) = 1 + 1 from mv_w_id (by omega) (by omega)]) <;> omega]
  rw [show mv_w (((0 * 10) + (f (4 * c))) * 10) = ((0 * 10) + (f (4 * c))) * 10 from mv_w_id (by omega) (by omega)]
  rw [show mv_w ((((0 * 10) + (f (4 * c))) * 10) + (f (4 * c + 1))) = (((0 * 10) + (f (4 * c))) * 10) + (f (4 * c + 1)) from mv_w_id (by omega) (by omega)]
  refine mv_go' 3 (pc' := if 2 < 4 then 9 else 28) (ls' := [mv_R 33, mv_I (c : Int), mv_I ((((0 * 10) + (f (4 * c))) * 10) + (f (4 * c + 1))), mv_I 2]) (st' := []) (M1 := M) rfl ?_
  refine mv_tt' (by decide) ?_
  refine mv_go' 9 (pc' := 19) (ls' := [mv_R 33, mv_I (c : Int), mv_I ((((0 * 10) + (f (4 * c))) * 10) + (f (4 * c + 1))), mv_I 2]) (st' := [mv_I (mv_w ((mv_w ((c : Int) * 4)) + 2)), mv_R 33, mv_I (mv_w (((((0 * 10) + (f (4 * c))) * 10) + (f (4 * c + 1))) * 10))]) (M1 := M) rfl ?_
  rw [show mv_w ((mv_w ((c : Int) * 4)) + 2) = ((4 * c + 2 : Nat) : Int) from by (rw [show mv_w ((c : Int) * 4) = (c : Int) * 4 from mv_w_id (by omega) (by omega), show mv_w (((c : Int) * 4) + 2) = ((c : Int) * 4) + 2 from mv_w_id (by omega) (by omega)]) <;> omega]
  refine mv_go' 1 (pc' := if 0 ≤ ((4 * c + 2 : Nat) : Int) ∧ ((4 * c + 2 : Nat) : Int) < 24 then 20 else mv_bad) (ls' := [mv_R 33, mv_I (c : Int), mv_I ((((0 * 10) + (f (4 * c))) * 10) + (f (4 * c + 1))), mv_I 2]) (st' := [mv_I (M 33 (4 * c + 2)), mv_I (mv_w (((((0 * 10) + (f (4 * c))) * 10) + (f (4 * c + 1))) * 10))]) (M1 := M) rfl ?_
  refine mv_tt' (by omega) ?_
  rw [show M 33 (4 * c + 2) = f (4 * c + 2) from by exact h2.1]
  refine mv_go' 4 (pc' := 4) (ls' := [mv_R 33, mv_I (c : Int), mv_I (mv_w ((mv_w (((((0 * 10) + (f (4 * c))) * 10) + (f (4 * c + 1))) * 10)) + (f (4 * c + 2)))), mv_I (mv_w (2 + 1))]) (st' := []) (M1 := M) rfl ?_
  rw [show mv_w (2 + 1) = 3 from by (rw [show mv_w (2 + 1) = 2 + 1 from mv_w_id (by omega) (by omega)]) <;> omega]
  rw [show mv_w (((((0 * 10) + (f (4 * c))) * 10) + (f (4 * c + 1))) * 10) = ((((0 * 10) + (f (4 * c))) * 10) + (f (4 * c + 1))) * 10 from mv_w_id (by omega) (by omega)]
  rw [show mv_w ((((((0 * 10) + (f (4 * c))) * 10) + (f (4 * c + 1))) * 10) + (f (4 * c + 2))) = (((((0 * 10) + (f (4 * c))) * 10) + (f (4 * c + 1))) * 10) + (f (4 * c + 2)) from mv_w_id (by omega) (by omega)]
  refine mv_go' 3 (pc' := if 3 < 4 then 9 else 28) (ls' := [mv_R 33, mv_I (c : Int), mv_I ((((((0 * 10) + (f (4 * c))) * 10) + (f (4 * c + 1))) * 10) + (f (4 * c + 2))), mv_I 3]) (st' := []) (M1 := M) rfl ?_
  refine mv_tt' (by decide) ?_
  refine mv_go' 9 (pc' := 19) (ls' := [mv_R 33, mv_I (c : Int), mv_I ((((((0 * 10) + (f (4 * c))) * 10) + (f (4 * c + 1))) * 10) + (f (4 * c + 2))), mv_I 3]) (st' := [mv_I (mv_w ((mv_w ((c : Int) * 4)) + 3)), mv_R 33, mv_I (mv_w (((((((0 * 10) + (f (4 * c))) * 10) + (f (4 * c + 1))) * 10) + (f (4 * c + 2))) * 10))]) (M1 := M) rfl ?_
  rw [show mv_w ((mv_w ((c : Int) * 4)) + 3) = ((4 * c + 3 : Nat) : Int) from by (rw [show mv_w ((c : Int) * 4) = (c : Int) * 4 from mv_w_id (by omega) (by omega), show mv_w (((c : Int) * 4) + 3) = ((c : Int) * 4) + 3 from mv_w_id (by omega) (by omega)]) <;> omega]
  refine mv_go' 1 (pc' := if 0 ≤ ((4 * c + 3 : Nat) : Int) ∧ ((4 * c + 3 : Nat) : Int) < 24 then 20 else mv_bad) (ls' := [mv_R 33, mv_I (c : Int), mv_I ((((((0 * 10) + (f (4 * c))) * 10) + (f (4 * c + 1))) * 10) + (f (4 * c + 2))), mv_I 3]) (st' := [mv_I (M 33 (4 * c + 3)), mv_I (mv_w (((((((0 * 10) + (f (4 * c))) * 10) + (f (4 * c + 1))) * 10) + (f (4 * c + 2))) * 10))]) (M1 := M) rfl ?_
  refine mv_tt' (by omega) ?_
  rw [show M 33 (4 * c + 3) = f (4 * c + 3) from by exact h3.1]
  refine mv_go' 4 (pc' := 4) (ls' := [mv_R 33, mv_I (c : Int), mv_I (mv_w ((mv_w (((((((0 * 10) + (f (4 * c))) * 10) + (f (4 * c + 1))) * 10) + (f (4 * c + 2))) * 10)) + (f (4 * c + 3)))), mv_I (mv_w (3 + 1))]) (st' := []) (M1 := M) rfl ?_
  rw [show mv_w (3 + 1) = 4 from by (rw [show mv_w (3 + 1) = 3 + 1 from mv_w_id (by omega) (by omega)]) <;> omega]
  rw [show mv_w (((((((0 * 10) + (f (4 * c))) * 10) + (f (4 * c + 1))) * 10) + (f (4 * c + 2))) * 10) = ((((((0 * 10) + (f (4 * c))) * 10) + (f (4 * c + 1))) * 10) + (f (4 * c + 2))) * 10 from mv_w_id (by omega) (by omega)]
  rw [show mv_w ((((((((0 * 10) + (f (4 * c))) * 10) + (f (4 * c + 1))) * 10) + (f (4 * c + 2))) * 10) + (f (4 * c + 3))) = (((((((0 * 10) + (f (4 * c))) * 10) + (f (4 * c + 1))) * 10) + (f (4 * c + 2))) * 10) + (f (4 * c + 3)) from mv_w_id (by omega) (by omega)]
  refine mv_go' 3 (pc' := if 4 < 4 then 9 else 28) (ls' := [mv_R 33, mv_I (c : Int), mv_I ((((((((0 * 10) + (f (4 * c))) * 10) + (f (4 * c + 1))) * 10) + (f (4 * c + 2))) * 10) + (f (4 * c + 3))), mv_I 4]) (st' := []) (M1 := M) rfl ?_
  refine mv_ff' (by decide) ?_
  refine mv_go' 1 (pc' := 29) (ls' := [mv_R 33, mv_I (c : Int), mv_I ((((((((0 * 10) + (f (4 * c))) * 10) + (f (4 * c + 1))) * 10) + (f (4 * c + 2))) * 10) + (f (4 * c + 3))), mv_I 4]) (st' := [mv_I ((((((((0 * 10) + (f (4 * c))) * 10) + (f (4 * c + 1))) * 10) + (f (4 * c + 2))) * 10) + (f (4 * c + 3)))]) (M1 := M) rfl ?_
  exact mv_Ru.val (mv_ret (fun n => rfl) (rfl)) (congrArg mv_I (by unfold sp_dg; omega))
theorem sp_cdg51 {M : mv_M} {f : Nat → Int} {c : Nat} (hf : ∀ j, j < 24 → M 51 j = f j ∧ 0 ≤ f j ∧ f j ≤ 9) (hc : c < 6) : mv_Ru 0 107 0 [mv_R 51, mv_I (c : Int), mv_U, mv_U] [] M (mv_I (sp_dg f c)) (fun M1 => M1 = M) := by
  have h0 := hf (4 * c) (by omega)
  have h1 := hf (4 * c + 1) (by omega)
  have h2 := hf (4 * c + 2) (by omega)
  have h3 := hf (4 * c + 3) (by omega)
  refine mv_go' 4 (pc' := 4) (ls' := [mv_R 51, mv_I (c : Int), mv_I 0, mv_I 0]) (st' := []) (M1 := M) rfl ?_
  refine mv_go' 3 (pc' := if 0 < 4 then 9 else 28) (ls' := [mv_R 51, mv_I (c : Int), mv_I 0, mv_I 0]) (st' := []) (M1 := M) rfl ?_
  refine mv_tt' (by decide) ?_
  refine mv_go' 9 (pc' := 19) (ls' := [mv_R 51, mv_I (c : Int), mv_I 0, mv_I 0]) (st' := [mv_I (mv_w ((mv_w ((c : Int) * 4)) + 0)), mv_R 51, mv_I (mv_w (0 * 10))]) (M1 := M) rfl ?_
  rw [show mv_w ((mv_w ((c : Int) * 4)) + 0) = ((4 * c : Nat) : Int) from by (rw [show mv_w ((c : Int) * 4) = (c : Int) * 4 from mv_w_id (by omega) (by omega), show mv_w (((c : Int) * 4) + 0) = ((c : Int) * 4) + 0 from mv_w_id (by omega) (by omega)]) <;> omega]
  refine mv_go' 1 (pc' := if 0 ≤ ((4 * c : Nat) : Int) ∧ ((4 * c : Nat) : Int) < 24 then 20 else mv_bad) (ls' := [mv_R 51, mv_I (c : Int), mv_I 0, mv_I 0]) (st' := [mv_I (M 51 (4 * c)), mv_I (mv_w (0 * 10))]) (M1 := M) rfl ?_
  refine mv_tt' (by omega) ?_
  rw [show M 51 (4 * c) = f (4 * c) from by exact h0.1]
  refine mv_go' 4 (pc' := 4) (ls' := [mv_R 51, mv_I (c : Int), mv_I (mv_w ((mv_w (0 * 10)) + (f (4 * c)))), mv_I (mv_w (0 + 1))]) (st' := []) (M1 := M) rfl ?_
  rw [show mv_w (0 + 1) = 1 from by (rw [show mv_w (0 + 1) = 0 + 1 from mv_w_id (by omega) (by omega)]) <;> omega]
  rw [show mv_w (0 * 10) = 0 * 10 from mv_w_id (by omega) (by omega)]
  rw [show mv_w ((0 * 10) + (f (4 * c))) = (0 * 10) + (f (4 * c)) from mv_w_id (by omega) (by omega)]
  refine mv_go' 3 (pc' := if 1 < 4 then 9 else 28) (ls' := [mv_R 51, mv_I (c : Int), mv_I ((0 * 10) + (f (4 * c))), mv_I 1]) (st' := []) (M1 := M) rfl ?_
  refine mv_tt' (by decide) ?_
  refine mv_go' 9 (pc' := 19) (ls' := [mv_R 51, mv_I (c : Int), mv_I ((0 * 10) + (f (4 * c))), mv_I 1]) (st' := [mv_I (mv_w ((mv_w ((c : Int) * 4)) + 1)), mv_R 51, mv_I (mv_w (((0 * 10) + (f (4 * c))) * 10))]) (M1 := M) rfl ?_
  rw [show mv_w ((mv_w ((c : Int) * 4)) + 1) = ((4 * c + 1 : Nat) : Int) from by (rw [show mv_w ((c : Int) * 4) = (c : Int) * 4 from mv_w_id (by omega) (by omega), show mv_w (((c : Int) * 4) + 1) = ((c : Int) * 4) + 1 from mv_w_id (by omega) (by omega)]) <;> omega]
  refine mv_go' 1 (pc' := if 0 ≤ ((4 * c + 1 : Nat) : Int) ∧ ((4 * c + 1 : Nat) : Int) < 24 then 20 else mv_bad) (ls' := [mv_R 51, mv_I (c : Int), mv_I ((0 * 10) + (f (4 * c))), mv_I 1]) (st' := [mv_I (M 51 (4 * c + 1)), mv_I (mv_w (((0 * 10) + (f (4 * c))) * 10))]) (M1 := M) rfl ?_
  refine mv_tt' (by omega) ?_
  rw [show M 51 (4 * c + 1) = f (4 * c + 1) from by exact h1.1]
  refine mv_go' 4 (pc' := 4) (ls' := [mv_R 51, mv_I (c : Int), mv_I (mv_w ((mv_w (((0 * 10) + (f (4 * c))) * 10)) + (f (4 * c + 1)))), mv_I (mv_w (1 + 1))]) (st' := []) (M1 := M) rfl ?_
  rw [show mv_w (1 + 1) = 2 from by (rw [show mv_w (1 + 1) = 1 + 1 from mv_w_id (by omega) (by omega)]) <;> omega]
  rw [show mv_w (((0 * 10) + (f (4 * c))) * 10) = ((0 * 10) + (f (4 * c))) * 10 from mv_w_id (by omega) (by omega)]
  rw [show mv_w ((((0 * 10) + (f (4 * c))) * 10) + (f (4 * c + 1))) = (((0 * 10) + (f (4 * c))) * 10) + (f (4 * c + 1)) from mv_w_id (by omega) (by omega)]
  refine mv_go' 3 (pc' := if 2 < 4 then 9 else 28) (ls' := [mv_R 51, mv_I (c : Int), mv_I ((((0 * 10) + (f (4 * c))) * 10) + (f (4 * c + 1))), mv_I 2]) (st' := []) (M1 := M) rfl ?_
  refine mv_tt' (by decide) ?_
  refine mv_go' 9 (pc' := 19) (ls' := [mv_R 51, mv_I (c : Int), mv_I ((((0 * 10) + (f (4 * c))) * 10) + (f (4 * c + 1))), mv_I 2]) (st' := [mv_I (mv_w ((mv_w ((c : Int) * 4)) + 2)), mv_R 51, mv_I (mv_w (((((0 * 10) + (f (4 * c))) * 10) + (f (4 * c + 1))) * 10))]) (M1 := M) rfl ?_
  rw [show mv_w ((mv_w ((c : Int) * 4)) + 2) = ((4 * c + 2 : Nat) : Int) from by (rw [show mv_w ((c : Int) * 4) = (c : Int) * 4 from mv_w_id (by omega) (by omega), show mv_w (((c : Int) * 4) + 2) = ((c : Int) * 4) + 2 from mv_w_id (by omega) (by omega)]) <;> omega]
  refine mv_go' 1 (pc' := if 0 ≤ ((4 * c + 2 : Nat) : Int) ∧ ((4 * c + 2 : Nat) : Int) < 24 then 20 else mv_bad) (ls' := [mv_R 51, mv_I (c : Int), mv_I ((((0 * 10) + (f (4 * c))) * 10) + (f (4 * c + 1))), mv_I 2]) (st' := [mv_I (M 51 (4 * c + 2)), mv_I (mv_w (((((0 * 10) + (f (4 * c))) * 10) + (f (4 * c + 1))) * 10))]) (M1 := M) rfl ?_
  refine mv_tt' (by omega) ?_
  rw [show M 51 (4 * c + 2) = f (4 * c + 2) from by exact h2.1]
  refine mv_go' 4 (pc' := 4) (ls' := [mv_R 51, mv_I (c : Int), mv_I (mv_w ((mv_w (((((0 * 10) + (f (4 * c))) * 10) + (f (4 * c + 1))) * 10)) + (f (4 * c + 2)))), mv_I (mv_w (2 + 1))]) (st' := []) (M1 := M) rfl ?_
  rw [show mv_w (2 + 1) = 3 from by (rw [show mv_w (2 + 1) = 2 + 1 from mv_w_id (by omega) (by omega)]) <;> omega]
  rw [show mv_w (((((0 * 10) + (f (4 * c))) * 10) + (f (4 * c + 1))) * 10) = ((((0 * 10) + (f (4 * c))) * 10) + (f (4 * c + 1))) * 10 from mv_w_id (by omega) (by omega)]
  rw [show mv_w ((((((0 * 10) + (f (4 * c))) * 10) + (f (4 * c + 1))) * 10) + (f (4 * c + 2))) = (((((0 * 10) + (f (4 * c))) * 10) + (f (4 * c + 1))) * 10) + (f (4 * c + 2)) from mv_w_id (by omega) (by omega)]
  refine mv_go' 3 (pc' := if 3 < 4 then 9 else 28) (ls' := [mv_R 51, mv_I (c : Int), mv_I ((((((0 * 10) + (f (4 * c))) * 10) + (f (4 * c + 1))) * 10) + (f (4 * c + 2))), mv_I 3]) (st' := []) (M1 := M) rfl ?_
  refine mv_tt' (by decide) ?_
  refine mv_go' 9 (pc' := 19) (ls' := [mv_R 51, mv_I (c : Int), mv_I ((((((0 * 10) + (f (4 * c))) * 10) + (f (4 * c + 1))) * 10) + (f (4 * c + 2))), mv_I 3]) (st' := [mv_I (mv_w ((mv_w ((c : Int) * 4)) + 3)), mv_R 51, mv_I (mv_w (((((((0 * 10) + (f (4 * c))) * 10) + (f (4 * c + 1))) * 10) + (f (4 * c + 2))) * 10))]) (M1 := M) rfl ?_
  rw [show mv_w ((mv_w ((c : Int) * 4)) + 3) = ((4 * c + 3 : Nat) : Int) from by (rw [show mv_w ((c : Int) * 4) = (c : Int) * 4 from mv_w_id (by omega) (by omega), show mv_w (((c : Int) * 4) + 3) = ((c : Int) * 4) + 3 from mv_w_id (by omega) (by omega)]) <;> omega]
  refine mv_go' 1 (pc' := if 0 ≤ ((4 * c + 3 : Nat) : Int) ∧ ((4 * c + 3 : Nat) : Int) < 24 then 20 else mv_bad) (ls' := [mv_R 51, mv_I (c : Int), mv_I ((((((0 * 10) + (f (4 * c))) * 10) + (f (4 * c + 1))) * 10) + (f (4 * c + 2))), mv_I 3]) (st' := [mv_I (M 51 (4 * c + 3)), mv_I (mv_w (((((((0 * 10) + (f (4 * c))) * 10) + (f (4 * c + 1))) * 10) + (f (4 * c + 2))) * 10))]) (M1 := M) rfl ?_
  refine mv_tt' (by omega) ?_
  rw [show M 51 (4 * c + 3) = f (4 * c + 3) from by exact h3.1]
  refine mv_go' 4 (pc' := 4) (ls' := [mv_R 51, mv_I (c : Int), mv_I (mv_w ((mv_w (((((((0 * 10) + (f (4 * c))) * 10) + (f (4 * c + 1))) * 10) + (f (4 * c + 2))) * 10)) + (f (4 * c + 3)))), mv_I (mv_w (3 + 1))]) (st' := []) (M1 := M) rfl ?_
  rw [show mv_w (3 + 1) = 4 from by (rw [show mv_w (3 + 1) = 3 + 1 from mv_w_id (by omega) (by omega)]) <;> omega]
  rw [show mv_w (((((((0 * 10) + (f (4 * c))) * 10) + (f (4 * c + 1))) * 10) + (f (4 * c + 2))) * 10) = ((((((0 * 10) + (f (4 * c))) * 10) + (f (4 * c + 1))) * 10) + (f (4 * c + 2))) * 10 from mv_w_id (by omega) (by omega)]
  rw [show mv_w ((((((((0 * 10) + (f (4 * c))) * 10) + (f (4 * c + 1))) * 10) + (f (4 * c + 2))) * 10) + (f (4 * c + 3))) = (((((((0 * 10) + (f (4 * c))) * 10) + (f (4 * c + 1))) * 10) + (f (4 * c + 2))) * 10) + (f (4 * c + 3)) from mv_w_id (by omega) (by omega)]
  refine mv_go' 3 (pc' := if 4 < 4 then 9 else 28) (ls' := [mv_R 51, mv_I (c : Int), mv_I ((((((((0 * 10) + (f (4 * c))) * 10) + (f (4 * c + 1))) * 10) + (f (4 * c + 2))) * 10) + (f (4 * c + 3))), mv_I 4]) (st' := []) (M1 := M) rfl ?_
  refine mv_ff' (by decide) ?_
  refine mv_go' 1 (pc' := 29) (ls' := [mv_R 51, mv_I (c : Int), mv_I ((((((((0 * 10) + (f (4 * c))) * 10) + (f (4 * c + 1))) * 10) + (f (4 * c + 2))) * 10) + (f (4 * c + 3))), mv_I 4]) (st' := [mv_I ((((((((0 * 10) + (f (4 * c))) * 10) + (f (4 * c + 1))) * 10) + (f (4 * c + 2))) * 10) + (f (4 * c + 3)))]) (M1 := M) rfl ?_
  exact mv_Ru.val (mv_ret (fun n => rfl) (rfl)) (congrArg mv_I (by unfold sp_dg; omega))
theorem sp_cdg53 {M : mv_M} {f : Nat → Int} {c : Nat} (hf : ∀ j, j < 24 → M 53 j = f j ∧ 0 ≤ f j ∧ f j ≤ 9) (hc : c < 6) : mv_Ru 0 107 0 [mv_R 53, mv_I (c : Int), mv_U, mv_U] [] M (mv_I (sp_dg f c)) (fun M1 => M1 = M) := by
  have h0 := hf (4 * c) (by omega)
  have h1 := hf (4 * c + 1) (by omega)
  have h2 := hf (4 * c + 2) (by omega)
  have h3 := hf (4 * c + 3) (by omega)
  refine mv_go' 4 (pc' := 4) (ls' := [mv_R 53, mv_I (c : Int), mv_I 0, mv_I 0]) (st' := []) (M1 := M) rfl ?_
  refine mv_go' 3 (pc' := if 0 < 4 then 9 else 28) (ls' := [mv_R 53, mv_I (c : Int), mv_I 0, mv_I 0]) (st' := []) (M1 := M) rfl ?_
  refine mv_tt' (by decide) ?_
  refine mv_go' 9 (pc' := 19) (ls' := [mv_R 53, mv_I (c : Int), mv_I 0, mv_I 0]) (st' := [mv_I (mv_w ((mv_w ((c : Int) * 4)) + 0)), mv_R 53, mv_I (mv_w (0 * 10))]) (M1 := M) rfl ?_
  rw [show mv_w ((mv_w ((c : Int) * 4)) + 0) = ((4 * c : Nat) : Int) from by (rw [show mv_w ((c : Int) * 4) = (c : Int) * 4 from mv_w_id (by omega) (by omega), show mv_w (((c : Int) * 4) + 0) = ((c : Int) * 4) + 0 from mv_w_id (by omega) (by omega)]) <;> omega]
  refine mv_go' 1 (pc' := if 0 ≤ ((4 * c : Nat) : Int) ∧ ((4 * c : Nat) : Int) < 24 then 20 else mv_bad) (ls' := [mv_R 53, mv_I (c : Int), mv_I 0, mv_I 0]) (st' := [mv_I (M 53 (4 * c)), mv_I (mv_w (0 * 10))]) (M1 := M) rfl ?_
  refine mv_tt' (by omega) ?_
  rw [show M 53 (4 * c) = f (4 * c) from by exact h0.1]
  refine mv_go' 4 (pc' := 4) (ls' := [mv_R 53, mv_I (c : Int), mv_I (mv_w ((mv_w (0 * 10)) + (f (4 * c)))), mv_I (mv_w (0 + 1))]) (st' := []) (M1 := M) rfl ?_
  rw [show mv_w (0 + 1) = 1 from by (rw [show mv_w (0 + 1) = 0 + 1 from mv_w_id (by omega) (by omega)]) <;> omega]
  rw [show mv_w (0 * 10) = 0 * 10 from mv_w_id (by omega) (by omega)]
  rw [show mv_w ((0 * 10) + (f (4 * c))) = (0 * 10) + (f (4 * c)) from mv_w_id (by omega) (by omega)]
  refine mv_go' 3 (pc' := if 1 < 4 then 9 else 28) (ls' := [mv_R 53, mv_I (c : Int), mv_I ((0 * 10) + (f (4 * c))), mv_I 1]) (st' := []) (M1 := M) rfl ?_
  refine mv_tt' (by decide) ?_
  refine mv_go' 9 (pc' := 19) (ls' := [mv_R 53, mv_I (c : Int), mv_I ((0 * 10) + (f (4 * c))), mv_I 1]) (st' := [mv_I (mv_w ((mv_w ((c : Int) * 4)) + 1)), mv_R 53, mv_I (mv_w (((0 * 10) + (f (4 * c))) * 10))]) (M1 := M) rfl ?_
  rw [show mv_w ((mv_w ((c : Int) * 4)) + 1) = ((4 * c + 1 : Nat) : Int) from by (rw [show mv_w ((c : Int) * 4) = (c : Int) * 4 from mv_w_id (by omega) (by omega), show mv_w (((c : Int) * 4) + 1) = ((c : Int) * 4) + 1 from mv_w_id (by omega) (by omega)]) <;> omega]
  refine mv_go' 1 (pc' := if 0 ≤ ((4 * c + 1 : Nat) : Int) ∧ ((4 * c + 1 : Nat) : Int) < 24 then 20 else mv_bad) (ls' := [mv_R 53, mv_I (c : Int), mv_I ((0 * 10) + (f (4 * c))), mv_I 1]) (st' := [mv_I (M 53 (4 * c + 1)), mv_I (mv_w (((0 * 10) + (f (4 * c))) * 10))]) (M1 := M) rfl ?_
  refine mv_tt' (by omega) ?_
  rw [show M 53 (4 * c + 1) = f (4 * c + 1) from by exact h1.1]
  refine mv_go' 4 (pc' := 4) (ls' := [mv_R 53, mv_I (c : Int), mv_I (mv_w ((mv_w (((0 * 10) + (f (4 * c))) * 10)) + (f (4 * c + 1)))), mv_I (mv_w (1 + 1))]) (st' := []) (M1 := M) rfl ?_
  rw [show mv_w (1 + 1) = 2 from by (rw [show mv_w (1 + 1) = 1 + 1 from mv_w_id (by omega) (by omega)]) <;> omega]
  rw [show mv_w (((0 * 10) + (f (4 * c))) * 10) = ((0 * 10) + (f (4 * c))) * 10 from mv_w_id (by omega) (by omega)]
  rw [show mv_w ((((0 * 10) + (f (4 * c))) * 10) + (f (4 * c + 1))) = (((0 * 10) + (f (4 * c))) * 10) + (f (4 * c + 1)) from mv_w_id (by omega) (by omega)]
  refine mv_go' 3 (pc' := if 2 < 4 then 9 else 28) (ls' := [mv_R 53, mv_I (c : Int), mv_I ((((0 * 10) + (f (4 * c))) * 10) + (f (4 * c + 1))), mv_I 2]) (st' := []) (M1 := M) rfl ?_
  refine mv_tt' (by decide) ?_
  refine mv_go' 9 (pc' := 19) (ls' := [mv_R 53, mv_I (c : Int), mv_I ((((0 * 10) + (f (4 * c))) * 10) + (f (4 * c + 1))), mv_I 2]) (st' := [mv_I (mv_w ((mv_w ((c : Int) * 4)) + 2)), mv_R 53, mv_I (mv_w (((((0 * 10) + (f (4 * c))) * 10) + (f (4 * c + 1))) * 10))]) (M1 := M) rfl ?_
  rw [show mv_w ((mv_w ((c : Int) * 4)) + 2) = ((4 * c + 2 : Nat) : Int) from by (rw [show mv_w ((c : Int) * 4) = (c : Int) * 4 from mv_w_id (by omega) (by omega), show mv_w (((c : Int) * 4) + 2) = ((c : Int) * 4) + 2 from mv_w_id (by omega) (by omega)]) <;> omega]
  refine mv_go' 1 (pc' := if 0 ≤ ((4 * c + 2 : Nat) : Int) ∧ ((4 * c + 2 : Nat) : Int) < 24 then 20 else mv_bad) (ls' := [mv_R 53, mv_I (c : Int), mv_I ((((0 * 10) + (f (4 * c))) * 10) + (f (4 * c + 1))), mv_I 2]) (st' := [mv_I (M 53 (4 * c + 2)), mv_I (mv_w (((((0 * 10) + (f (4 * c))) * 10) + (f (4 * c + 1))) * 10))]) (M1 := M) rfl ?_
  refine mv_tt' (by omega) ?_
  rw [show M 53 (4 * c + 2) = f (4 * c + 2) from by exact h2.1]
  refine mv_go' 4 (pc' := 4) (ls' := [mv_R 53, mv_I (c : Int), mv_I (mv_w ((mv_w (((((0 * 10) + (f (4 * c))) * 10) + (f (4 * c + 1))) * 10)) + (f (4 * c + 2)))), mv_I (mv_w (2 + 1))]) (st' := []) (M1 := M) rfl ?_
  rw [show mv_w (2 + 1) = 3 from by (rw [show mv_w (2 + 1) = 2 + 1 from mv_w_id (by omega) (by omega)]) <;> omega]
  rw [show mv_w (((((0 * 10) + (f (4 * c))) * 10) + (f (4 * c + 1))) * 10) = ((((0 * 10) + (f (4 * c))) * 10) + (f (4 * c + 1))) * 10 from mv_w_id (by omega) (by omega)]
  rw [show mv_w ((((((0 * 10) + (f (4 * c))) * 10) + (f (4 * c + 1))) * 10) + (f (4 * c + 2))) = (((((0 * 10) + (f (4 * c))) * 10) + (f (4 * c + 1))) * 10) + (f (4 * c + 2)) from mv_w_id (by omega) (by omega)]
  refine mv_go' 3 (pc' := if 3 < 4 then 9 else 28) (ls' := [mv_R 53, mv_I (c : Int), mv_I ((((((0 * 10) + (f (4 * c))) * 10) + (f (4 * c + 1))) * 10) + (f (4 * c + 2))), mv_I 3]) (st' := []) (M1 := M) rfl ?_
  refine mv_tt' (by decide) ?_
  refine mv_go' 9 (pc' := 19) (ls' := [mv_R 53, mv_I (c : Int), mv_I ((((((0 * 10) + (f (4 * c))) * 10) + (f (4 * c + 1))) * 10) + (f (4 * c + 2))), mv_I 3]) (st' := [mv_I (mv_w ((mv_w ((c : Int) * 4)) + 3)), mv_R 53, mv_I (mv_w (((((((0 * 10) + (f (4 * c))) * 10) + (f (4 * c + 1))) * 10) + (f (4 * c + 2))) * 10))]) (M1 := M) rfl ?_
  rw [show mv_w ((mv_w ((c : Int) * 4)) + 3) = ((4 * c + 3 : Nat) : Int) from by (rw [show mv_w ((c : Int) * 4) = (c : Int) * 4 from mv_w_id (by omega) (by omega), show mv_w (((c : Int) * 4) + 3) = ((c : Int) * 4) + 3 from mv_w_id (by omega) (by omega)]) <;> omega]
  refine mv_go' 1 (pc' := if 0 ≤ ((4 * c + 3 : Nat) : Int) ∧ ((4 * c + 3 : Nat) : Int) < 24 then 20 else mv_bad) (ls' := [mv_R 53, mv_I (c : Int), mv_I ((((((0 * 10) + (f (4 * c))) * 10) + (f (4 * c + 1))) * 10) + (f (4 * c + 2))), mv_I 3]) (st' := [mv_I (M 53 (4 * c + 3)), mv_I (mv_w (((((((0 * 10) + (f (4 * c))) * 10) + (f (4 * c + 1))) * 10) + (f (4 * c + 2))) * 10))]) (M1 := M) rfl ?_
  refine mv_tt' (by omega) ?_
  rw [show M 53 (4 * c + 3) = f (4 * c + 3) from by exact h3.1]
  refine mv_go' 4 (pc' := 4) (ls' := [mv_R 53, mv_I (c : Int), mv_I (mv_w ((mv_w (((((((0 * 10) + (f (4 * c))) * 10) + (f (4 * c + 1))) * 10) + (f (4 * c + 2))) * 10)) + (f (4 * c + 3)))), mv_I (mv_w (3 + 1))]) (st' := []) (M1 := M) rfl ?_
  rw [show mv_w (3 + 1) = 4 from by (rw [show mv_w (3 + 1) = 3 + 1 from mv_w_id (by omega) (by omega)]) <;> omega]
  rw [show mv_w (((((((0 * 10) + (f (4 * c))) * 10) + (f (4 * c + 1))) * 10) + (f (4 * c + 2))) * 10) = ((((((0 * 10) + (f (4 * c))) * 10) + (f (4 * c + 1))) * 10) + (f (4 * c + 2))) * 10 from mv_w_id (by omega) (by omega)]
  rw [show mv_w ((((((((0 * 10) + (f (4 * c))) * 10) + (f (4 * c + 1))) * 10) + (f (4 * c + 2))) * 10) + (f (4 * c + 3))) = (((((((0 * 10) + (f (4 * c))) * 10) + (f (4 * c + 1))) * 10) + (f (4 * c + 2))) * 10) + (f (4 * c + 3)) from mv_w_id (by omega) (by omega)]
  refine mv_go' 3 (pc' := if 4 < 4 then 9 else 28) (ls' := [mv_R 53, mv_I (c : Int), mv_I ((((((((0 * 10) + (f (4 * c))) * 10) + (f (4 * c + 1))) * 10) + (f (4 * c + 2))) * 10) + (f (4 * c + 3))), mv_I 4]) (st' := []) (M1 := M) rfl ?_
  refine mv_ff' (by decide) ?_
  refine mv_go' 1 (pc' := 29) (ls' := [mv_R 53, mv_I (c : Int), mv_I ((((((((0 * 10) + (f (4 * c))) * 10) + (f (4 * c + 1))) * 10) + (f (4 * c + 2))) * 10) + (f (4 * c + 3))), mv_I 4]) (st' := [mv_I ((((((((0 * 10) + (f (4 * c))) * 10) + (f (4 * c + 1))) * 10) + (f (4 * c + 2))) * 10) + (f (4 * c + 3)))]) (M1 := M) rfl ?_
  exact mv_Ru.val (mv_ret (fun n => rfl) (rfl)) (congrArg mv_I (by unfold sp_dg; omega))
theorem sp_mdg104 {M : mv_M} {f : Nat → Int} {c : Nat} (hf : ∀ j, j < 24 → M 104 j = f j ∧ 0 ≤ f j ∧ f j ≤ 9) (hc : c < 6) : mv_Ru 0 117 0 [mv_R 100, mv_I (c : Int), mv_U, mv_U] [] M (mv_I (sp_dg f c)) (fun M1 => M1 = M) := by
  have h0 := hf (4 * c) (by omega)
  have h1 := hf (4 * c + 1) (by omega)
  have h2 := hf (4 * c + 2) (by omega)
  have h3 := hf (4 * c + 3) (by omega)
  refine mv_go' 4 (pc' := 4) (ls' := [mv_R 100, mv_I (c : Int), mv_I 0, mv_I 0]) (st' := []) (M1 := M) rfl ?_
  refine mv_go' 3 (pc' := if 0 < 4 then 9 else 31) (ls' := [mv_R 100, mv_I (c : Int), mv_I 0, mv_I 0]) (st' := []) (M1 := M) rfl ?_
  refine mv_tt' (by decide) ?_
  refine mv_go' 10 (pc' := 22) (ls' := [mv_R 100, mv_I (c : Int), mv_I 0, mv_I 0]) (st' := [mv_I (mv_w ((mv_w (4 * (c : Int))) + 0)), mv_R 104, mv_I (mv_w (10 * 0))]) (M1 := M) rfl ?_
  rw [show mv_w ((mv_w (4 * (c : Int))) + 0) = ((4 * c : Nat) : Int) from by (rw [show mv_w (4 * (c : Int)) = 4 * (c : Int) from mv_w_id (by omega) (by omega), show mv_w ((4 * (c : Int)) + 0) = (4 * (c : Int)) + 0 from mv_w_id (by omega) (by omega)]) <;> omega]
  refine mv_go' 1 (pc' := if 0 ≤ ((4 * c : Nat) : Int) ∧ ((4 * c : Nat) : Int) < 24 then 23 else mv_bad) (ls' := [mv_R 100, mv_I (c : Int), mv_I 0, mv_I 0]) (st' := [mv_I (M 104 (4 * c)), mv_I (mv_w (10 * 0))]) (M1 := M) rfl ?_
  refine mv_tt' (by omega) ?_
  rw [show M 104 (4 * c) = f (4 * c) from by exact h0.1]
  refine mv_go' 4 (pc' := 4) (ls' := [mv_R 100, mv_I (c : Int), mv_I (mv_w ((mv_w (10 * 0)) + (f (4 * c)))), mv_I (mv_w (0 + 1))]) (st' := []) (M1 := M) rfl ?_
  rw [show mv_w (0 + 1) = 1 from by (rw [show mv_w (0 + 1) = 0 + 1 from mv_w_id (by omega) (by omega)]) <;> omega]
  rw [show mv_w (10 * 0) = 10 * 0 from mv_w_id (by omega) (by omega)]
  rw [show mv_w ((10 * 0) + (f (4 * c))) = (10 * 0) + (f (4 * c)) from mv_w_id (by omega) (by omega)]
  refine mv_go' 3 (pc' := if 1 < 4 then 9 else 31) (ls' := [mv_R 100, mv_I (c : Int), mv_I ((10 * 0) + (f (4 * c))), mv_I 1]) (st' := []) (M1 := M) rfl ?_
  refine mv_tt' (by decide) ?_
  refine mv_go' 10 (pc' := 22) (ls' := [mv_R 100, mv_I (c : Int), mv_I ((10 * 0) + (f (4 * c))), mv_I 1]) (st' := [mv_I (mv_w ((mv_w (4 * (c : Int))) + 1)), mv_R 104, mv_I (mv_w (10 * ((10 * 0) + (f (4 * c)))))]) (M1 := M) rfl ?_
  rw [show mv_w ((mv_w (4 * (c : Int))) + 1) = ((4 * c + 1 : Nat) : Int) from by (rw [show mv_w (4 * (c : Int)) = 4 * (c : Int) from mv_w_id (by omega) (by omega), show mv_w ((4 * (c : Int)) + 1) = (4 * (c : Int)) + 1 from mv_w_id (by omega) (by omega)]) <;> omega]
  refine mv_go' 1 (pc' := if 0 ≤ ((4 * c + 1 : Nat) : Int) ∧ ((4 * c + 1 : Nat) : Int) < 24 then 23 else mv_bad) (ls' := [mv_R 100, mv_I (c : Int), mv_I ((10 * 0) + (f (4 * c))), mv_I 1]) (st' := [mv_I (M 104 (4 * c + 1)), mv_I (mv_w (10 * ((10 * 0) + (f (4 * c)))))]) (M1 := M) rfl ?_
  refine mv_tt' (by omega) ?_
  rw [show M 104 (4 * c + 1) = f (4 * c + 1) from by exact h1.1]
  refine mv_go' 4 (pc' := 4) (ls' := [mv_R 100, mv_I (c : Int), mv_I (mv_w ((mv_w (10 * ((10 * 0) + (f (4 * c))))) + (f (4 * c + 1)))), mv_I (mv_w (1 + 1))]) (st' := []) (M1 := M) rfl ?_
  rw [show mv_w (1 + 1) = 2 from by (rw [show mv_w (1 + 1) = 1 + 1 from mv_w_id (by omega) (by omega)]) <;> omega]
  rw [show mv_w (10 * ((10 * 0) + (f (4 * c)))) = 10 * ((10 * 0) + (f (4 * c))) from mv_w_id (by omega) (by omega)]
  rw [show mv_w ((10 * ((10 * 0) + (f (4 * c)))) + (f (4 * c + 1))) = (10 * ((10 * 0) + (f (4 * c)))) + (f (4 * c + 1)) from mv_w_id (by omega) (by omega)]
  refine mv_go' 3 (pc' := if 2 < 4 then 9 else 31) (ls' := [mv_R 100, mv_I (c : Int), mv_I ((10 * ((10 * 0) + (f (4 * c)))) + (f (4 * c + 1))), mv_I 2]) (st' := []) (M1 := M) rfl ?_
  refine mv_tt' (by decide) ?_
  refine mv_go' 10 (pc' := 22) (ls' := [mv_R 100, mv_I (c : Int), mv_I ((10 * ((10 * 0) + (f (4 * c)))) + (f (4 * c + 1))), mv_I 2]) (st' := [mv_I (mv_w ((mv_w (4 * (c : Int))) + 2)), mv_R 104, mv_I (mv_w (10 * ((10 * ((10 * 0) + (f (4 * c)))) + (f (4 * c + 1)))))]) (M1 := M) rfl ?_
  rw [show mv_w ((mv_w (4 * (c : Int))) + 2) = ((4 * c + 2 : Nat) : Int) from by (rw [show mv_w (4 * (c : Int)) = 4 * (c : Int) from mv_w_id (by omega) (by omega), show mv_w ((4 * (c : Int)) + 2) = (4 * (c : Int)) + 2 from mv_w_id (by omega) (by omega)]) <;> omega]
  refine mv_go' 1 (pc' := if 0 ≤ ((4 * c + 2 : Nat) : Int) ∧ ((4 * c + 2 : Nat) : Int) < 24 then 23 else mv_bad) (ls' := [mv_R 100, mv_I (c : Int), mv_I ((10 * ((10 * 0) + (f (4 * c)))) + (f (4 * c + 1))), mv_I 2]) (st' := [mv_I (M 104 (4 * c + 2)), mv_I (mv_w (10 * ((10 * ((10 * 0) + (f (4 * c)))) + (f (4 * c + 1)))))]) (M1 := M) rfl ?_
  refine mv_tt' (by omega) ?_
  rw [show M 104 (4 * c + 2) = f (4 * c + 2) from by exact h2.1]
  refine mv_go' 4 (pc' := 4) (ls' := [mv_R 100, mv_I (c : Int), mv_I (mv_w ((mv_w (10 * ((10 * ((10 * 0) + (f (4 * c)))) + (f (4 * c + 1))))) + (f (4 * c + 2)))), mv_I (mv_w (2 + 1))]) (st' := []) (M1 := M) rfl ?_
  rw [show mv_w (2 + 1) = 3 from by (rw [show mv_w (2 + 1) = 2 + 1 from mv_w_id (by omega) (by omega)]) <;> omega]
  rw [show mv_w (10 * ((10 * ((10 * 0) + (f (4 * c)))) + (f (4 * c + 1)))) = 10 * ((10 * ((10 * 0) + (f (4 * c)))) + (f (4 * c + 1))) from mv_w_id (by omega) (by omega)]
  rw [show mv_w ((10 * ((10 * ((10 * 0) + (f (4 * c)))) + (f (4 * c + 1)))) + (f (4 * c + 2))) = (10 * ((10 * ((10 * 0) + (f (4 * c)))) + (f (4 * c + 1)))) + (f (4 * c + 2)) from mv_w_id (by omega) (by omega)]
  refine mv_go' 3 (pc' := if 3 < 4 then 9 else 31) (ls' := [mv_R 100, mv_I (c : Int), mv_I ((10 * ((10 * ((10 * 0) + (f (4 * c)))) + (f (4 * c + 1)))) + (f (4 * c + 2))), mv_I 3]) (st' := []) (M1 := M) rfl ?_
  refine mv_tt' (by decide) ?_
  refine mv_go' 10 (pc' := 22) (ls' := [mv_R 100, mv_I (c : Int), mv_I ((10 * ((10 * ((10 * 0) + (f (4 * c)))) + (f (4 * c + 1)))) + (f (4 * c + 2))), mv_I 3]) (st' := [mv_I (mv_w ((mv_w (4 * (c : Int))) + 3)), mv_R 104, mv_I (mv_w (10 * ((10 * ((10 * ((10 * 0) + (f (4 * c)))) + (f (4 * c + 1)))) + (f (4 * c + 2)))))]) (M1 := M) rfl ?_
  rw [show mv_w ((mv_w (4 * (c : Int))) + 3) = ((4 * c + 3 : Nat) : Int) from by (rw [show mv_w (4 * (c : Int)) = 4 * (c : Int) from mv_w_id (by omega) (by omega), show mv_w ((4 * (c : Int)) + 3) = (4 * (c : Int)) + 3 from mv_w_id (by omega) (by omega)]) <;> omega]
  refine mv_go' 1 (pc' := if 0 ≤ ((4 * c + 3 : Nat) : Int) ∧ ((4 * c + 3 : Nat) : Int) < 24 then 23 else mv_bad) (ls' := [mv_R 100, mv_I (c : Int), mv_I ((10 * ((10 * ((10 * 0) + (f (4 * c)))) + (f (4 * c + 1)))) + (f (4 * c + 2))), mv_I 3]) (st' := [mv_I (M 104 (4 * c + 3)), mv_I (mv_w (10 * ((10 * ((10 * ((10 * 0) + (f (4 * c)))) + (f (4 * c + 1)))) + (f (4 * c + 2)))))]) (M1 := M) rfl ?_
  refine mv_tt' (by omega) ?_
  rw [show M 104 (4 * c + 3) = f (4 * c + 3) from by exact h3.1]
  refine mv_go' 4 (pc' := 4) (ls' := [mv_R 100, mv_I (c : Int), mv_I (mv_w ((mv_w (10 * ((10 * ((10 * ((10 * 0) + (f (4 * c)))) + (f (4 * c + 1)))) + (f (4 * c + 2))))) + (f (4 * c + 3)))), mv_I (mv_w (3 + 1))]) (st' := []) (M1 := M) rfl ?_
  rw [show mv_w (3 + 1) = 4 from by (rw [show mv_w (3 + 1) = 3 + 1 from mv_w_id (by omega) (by omega)]) <;> omega]
  rw [show mv_w (10 * ((10 * ((10 * ((10 * 0) + (f (4 * c)))) + (f (4 * c + 1)))) + (f (4 * c + 2)))) = 10 * ((10 * ((10 * ((10 * 0) + (f (4 * c)))) + (f (4 * c + 1)))) + (f (4 * c + 2))) from mv_w_id (by omega) (by omega)]
  rw [show mv_w ((10 * ((10 * ((10 * ((10 * 0) + (f (4 * c)))) + (f (4 * c + 1)))) + (f (4 * c + 2)))) + (f (4 * c + 3))) = (10 * ((10 * ((10 * ((10 * 0) + (f (4 * c)))) + (f (4 * c + 1)))) + (f (4 * c + 2)))) + (f (4 * c + 3)) from mv_w_id (by omega) (by omega)]
  refine mv_go' 3 (pc' := if 4 < 4 then 9 else 31) (ls' := [mv_R 100, mv_I (c : Int), mv_I ((10 * ((10 * ((10 * ((10 * 0) + (f (4 * c)))) + (f (4 * c + 1)))) + (f (4 * c + 2)))) + (f (4 * c + 3))), mv_I 4]) (st' := []) (M1 := M) rfl ?_
  refine mv_ff' (by decide) ?_
  refine mv_go' 1 (pc' := 32) (ls' := [mv_R 100, mv_I (c : Int), mv_I ((10 * ((10 * ((10 * ((10 * 0) + (f (4 * c)))) + (f (4 * c + 1)))) + (f (4 * c + 2)))) + (f (4 * c + 3))), mv_I 4]) (st' := [mv_I ((10 * ((10 * ((10 * ((10 * 0) + (f (4 * c)))) + (f (4 * c + 1)))) + (f (4 * c + 2)))) + (f (4 * c + 3)))]) (M1 := M) rfl ?_
  exact mv_Ru.val (mv_ret (fun n => rfl) (rfl)) (congrArg mv_I (by unfold sp_dg; omega))
theorem sp_mdg105 {M : mv_M} {f : Nat → Int} {c : Nat} (hf : ∀ j, j < 24 → M 105 j = f j ∧ 0 ≤ f j ∧ f j ≤ 9) (hc : c < 6) : mv_Ru 0 119 0 [mv_R 100, mv_I (c : Int), mv_U, mv_U] [] M (mv_I (sp_dg f c)) (fun M1 => M1 = M) := by
  have h0 := hf (4 * c) (by omega)
  have h1 := hf (4 * c + 1) (by omega)
  have h2 := hf (4 * c + 2) (by omega)
  have h3 := hf (4 * c + 3) (by omega)
  refine mv_go' 4 (pc' := 4) (ls' := [mv_R 100, mv_I (c : Int), mv_I 0, mv_I 0]) (st' := []) (M1 := M) rfl ?_
  refine mv_go' 3 (pc' := if 0 < 4 then 9 else 31) (ls' := [mv_R 100, mv_I (c : Int), mv_I 0, mv_I 0]) (st' := []) (M1 := M) rfl ?_
  refine mv_tt' (by decide) ?_
  refine mv_go' 10 (pc' := 22) (ls' := [mv_R 100, mv_I (c : Int), mv_I 0, mv_I 0]) (st' := [mv_I (mv_w ((mv_w (4 * (c : Int))) + 0)), mv_R 105, mv_I (mv_w (10 * 0))]) (M1 := M) rfl ?_
  rw [show mv_w ((mv_w (4 * (c : Int))) + 0) = ((4 * c : Nat) : Int) from by (rw [show mv_w (4 * (c : Int)) = 4 * (c : Int) from mv_w_id (by omega) (by omega), show mv_w ((4 * (c : Int)) + 0) = (4 * (c : Int)) + 0 from mv_w_id (by omega) (by omega)]) <;> omega]
  refine mv_go' 1 (pc' := if 0 ≤ ((4 * c : Nat) : Int) ∧ ((4 * c : Nat) : Int) < 24 then 23 else mv_bad) (ls' := [mv_R 100, mv_I (c : Int), mv_I 0, mv_I 0]) (st' := [mv_I (M 105 (4 * c)), mv_I (mv_w (10 * 0))]) (M1 := M) rfl ?_
  refine mv_tt' (by omega) ?_
  rw [show M 105 (4 * c) = f (4 * c) from by exact h0.1]
  refine mv_go' 4 (pc' := 4) (ls' := [mv_R 100, mv_I (c : Int), mv_I (mv_w ((mv_w (10 * 0)) + (f (4 * c)))), mv_I (mv_w (0 + 1))]) (st' := []) (M1 := M) rfl ?_
  rw [show mv_w (0 + 1) = 1 from by (rw [show mv_w (0 + 1) = 0 + 1 from mv_w_id (by omega) (by omega)]) <;> omega]
  rw [show mv_w (10 * 0) = 10 * 0 from mv_w_id (by omega) (by omega)]
  rw [show mv_w ((10 * 0) + (f (4 * c))) = (10 * 0) + (f (4 * c)) from mv_w_id (by omega) (by omega)]
  refine mv_go' 3 (pc' := if 1 < 4 then 9 else 31) (ls' := [mv_R 100, mv_I (c : Int), mv_I ((10 * 0) + (f (4 * c))), mv_I 1]) (st' := []) (M1 := M) rfl ?_
  refine mv_tt' (by decide) ?_
  refine mv_go' 10 (pc' := 22) (ls' := [mv_R 100, mv_I (c : Int), mv_I ((10 * 0) + (f (4 * c))), mv_I 1]) (st' := [mv_I (mv_w ((mv_w (4 * (c : Int))) + 1)), mv_R 105, mv_I (mv_w (10 * ((10 * 0) + (f (4 * c)))))]) (M1 := M) rfl ?_
  rw [show mv_w ((mv_w (4 * (c : Int))) + 1) = ((4 * c + 1 : Nat) : Int) from by (rw [show mv_w (4 * (c : Int)) = 4 * (c : Int) from mv_w_id (by omega) (by omega), show mv_w ((4 * (c : Int)) + 1) = (4 * (c : Int)) + 1 from mv_w_id (by omega) (by omega)]) <;> omega]
  refine mv_go' 1 (pc' := if 0 ≤ ((4 * c + 1 : Nat) : Int) ∧ ((4 * c + 1 : Nat) : Int) < 24 then 23 else mv_bad) (ls' := [mv_R 100, mv_I (c : Int), mv_I ((10 * 0) + (f (4 * c))), mv_I 1]) (st' := [mv_I (M 105 (4 * c + 1)), mv_I (mv_w (10 * ((10 * 0) + (f (4 * c)))))]) (M1 := M) rfl ?_
  refine mv_tt' (by omega) ?_
  rw [show M 105 (4 * c + 1) = f (4 * c + 1) from by exact h1.1]
  refine mv_go' 4 (pc' := 4) (ls' := [mv_R 100, mv_I (c : Int), mv_I (mv_w ((mv_w (10 * ((10 * 0) + (f (4 * c))))) + (f (4 * c + 1)))), mv_I (mv_w (1 + 1))]) (st' := []) (M1 := M) rfl ?_
  rw [show mv_w (1 + 1) = 2 from by (rw [show mv_w (1 + 1) = 1 + 1 from mv_w_id (by omega) (by omega)]) <;> omega]
  rw [show mv_w (10 * ((10 * 0) + (f (4 * c)))) = 10 * ((10 * 0) + (f (4 * c))) from mv_w_id (by omega) (by omega)]
  rw [show mv_w ((10 * ((10 * 0) + (f (4 * c)))) + (f (4 * c + 1))) = (10 * ((10 * 0) + (f (4 * c)))) + (f (4 * c + 1)) from mv_w_id (by omega) (by omega)]
  refine mv_go' 3 (pc' := if 2 < 4 then 9 else 31) (ls' := [mv_R 100, mv_I (c : Int), mv_I ((10 * ((10 * 0) + (f (4 * c)))) + (f (4 * c + 1))), mv_I 2]) (st' := []) (M1 := M) rfl ?_
  refine mv_tt' (by decide) ?_
  refine mv_go' 10 (pc' := 22) (ls' := [mv_R 100, mv_I (c : Int), mv_I ((10 * ((10 * 0) + (f (4 * c)))) + (f (4 * c + 1))), mv_I 2]) (st' := [mv_I (mv_w ((mv_w (4 * (c : Int))) + 2)), mv_R 105, mv_I (mv_w (10 * ((10 * ((10 * 0) + (f (4 * c)))) + (f (4 * c + 1)))))]) (M1 := M) rfl ?_
  rw [show mv_w ((mv_w (4 * (c : Int))) + 2) = ((4 * c + 2 : Nat) : Int) from by (rw [show mv_w (4 * (c : Int)) = 4 * (c : Int) from mv_w_id (by omega) (by omega), show mv_w ((4 * (c : Int)) + 2) = (4 * (c : Int)) + 2 from mv_w_id (by omega) (by omega)]) <;> omega]
  refine mv_go' 1 (pc' := if 0 ≤ ((4 * c + 2 : Nat) : Int) ∧ ((4 * c + 2 : Nat) : Int) < 24 then 23 else mv_bad) (ls' := [mv_R 100, mv_I (c : Int), mv_I ((10 * ((10 * 0) + (f (4 * c)))) + (f (4 * c + 1))), mv_I 2]) (st' := [mv_I (M 105 (4 * c + 2)), mv_I (mv_w (10 * ((10 * ((10 * 0) + (f (4 * c)))) + (f (4 * c + 1)))))]) (M1 := M) rfl ?_
  refine mv_tt' (by omega) ?_
  rw [show M 105 (4 * c + 2) = f (4 * c + 2) from by exact h2.1]
  refine mv_go' 4 (pc' := 4) (ls' := [mv_R 100, mv_I (c : Int), mv_I (mv_w ((mv_w (10 * ((10 * ((10 * 0) + (f (4 * c)))) + (f (4 * c + 1))))) + (f (4 * c + 2)))), mv_I (mv_w (2 + 1))]) (st' := []) (M1 := M) rfl ?_
  rw [show mv_w (2 + 1) = 3 from by (rw [show mv_w (2 + 1) = 2 + 1 from mv_w_id (by omega) (by omega)]) <;> omega]
  rw [show mv_w (10 * ((10 * ((10 * 0) + (f (4 * c)))) + (f (4 * c + 1)))) = 10 * ((10 * ((10 * 0) + (f (4 * c)))) + (f (4 * c + 1))) from mv_w_id (by omega) (by omega)]
  rw [show mv_w ((10 * ((10 * ((10 * 0) + (f (4 * c)))) + (f (4 * c + 1)))) + (f (4 * c + 2))) = (10 * ((10 * ((10 * 0) + (f (4 * c)))) + (f (4 * c + 1)))) + (f (4 * c + 2)) from mv_w_id (by omega) (by omega)]
  refine mv_go' 3 (pc' := if 3 < 4 then 9 else 31) (ls' := [mv_R 100, mv_I (c : Int), mv_I ((10 * ((10 * ((10 * 0) + (f (4 * c)))) + (f (4 * c + 1)))) + (f (4 * c + 2))), mv_I 3]) (st' := []) (M1 := M) rfl ?_
  refine mv_tt' (by decide) ?_
  refine mv_go' 10 (pc' := 22) (ls' := [mv_R 100, mv_I (c : Int), mv_I ((10 * ((10 * ((10 * 0) + (f (4 * c)))) + (f (4 * c + 1)))) + (f (4 * c + 2))), mv_I 3]) (st' := [mv_I (mv_w ((mv_w (4 * (c : Int))) + 3)), mv_R 105, mv_I (mv_w (10 * ((10 * ((10 * ((10 * 0) + (f (4 * c)))) + (f (4 * c + 1)))) + (f (4 * c + 2)))))]) (M1 := M) rfl ?_
  rw [show mv_w ((mv_w (4 * (c : Int))) + 3) = ((4 * c + 3 : Nat) : Int) from by (rw [show mv_w (4 * (c : Int)) = 4 * (c : Int) from mv_w_id (by omega) (by omega), show mv_w ((4 * (c : Int)) + 3) = (4 * (c : Int)) + 3 from mv_w_id (by omega) (by omega)]) <;> omega]
  refine mv_go' 1 (pc' := if 0 ≤ ((4 * c + 3 : Nat) : Int) ∧ ((4 * c + 3 : Nat) : Int) < 24 then 23 else mv_bad) (ls' := [mv_R 100, mv_I (c : Int), mv_I ((10 * ((10 * ((10 * 0) + (f (4 * c)))) + (f (4 * c + 1)))) + (f (4 * c + 2))), mv_I 3]) (st' := [mv_I (M 105 (4 * c + 3)), mv_I (mv_w (10 * ((10 * ((10 * ((10 * 0) + (f (4 * c)))) + (f (4 * c + 1)))) + (f (4 * c + 2)))))]) (M1 := M) rfl ?_
  refine mv_tt' (by omega) ?_
  rw [show M 105 (4 * c + 3) = f (4 * c + 3) from by exact h3.1]
  refine mv_go' 4 (pc' := 4) (ls' := [mv_R 100, mv_I (c : Int), mv_I (mv_w ((mv_w (10 * ((10 * ((10 * ((10 * 0) + (f (4 * c)))) + (f (4 * c + 1)))) + (f (4 * c + 2))))) + (f (4 * c + 3)))), mv_I (mv_w (3 + 1))]) (st' := []) (M1 := M) rfl ?_
  rw [show mv_w (3 + 1) = 4 from by (rw [show mv_w (3 + 1) = 3 + 1 from mv_w_id (by omega) (by omega)]) <;> omega]
  rw [show mv_w (10 * ((10 * ((10 * ((10 * 0) + (f (4 * c)))) + (f (4 * c + 1)))) + (f (4 * c + 2)))) = 10 * ((10 * ((10 * ((10 * 0) + (f (4 * c)))) + (f (4 * c + 1)))) + (f (4 * c + 2))) from mv_w_id (by omega) (by omega)]
  rw [show mv_w ((10 * ((10 * ((10 * ((10 * 0) + (f (4 * c)))) + (f (4 * c + 1)))) + (f (4 * c + 2)))) + (f (4 * c + 3))) = (10 * ((10 * ((10 * ((10 * 0) + (f (4 * c)))) + (f (4 * c + 1)))) + (f (4 * c + 2)))) + (f (4 * c + 3)) from mv_w_id (by omega) (by omega)]
  refine mv_go' 3 (pc' := if 4 < 4 then 9 else 31) (ls' := [mv_R 100, mv_I (c : Int), mv_I ((10 * ((10 * ((10 * ((10 * 0) + (f (4 * c)))) + (f (4 * c + 1)))) + (f (4 * c + 2)))) + (f (4 * c + 3))), mv_I 4]) (st' := []) (M1 := M) rfl ?_
  refine mv_ff' (by decide) ?_
  refine mv_go' 1 (pc' := 32) (ls' := [mv_R 100, mv_I (c : Int), mv_I ((10 * ((10 * ((10 * ((10 * 0) + (f (4 * c)))) + (f (4 * c + 1)))) + (f (4 * c + 2)))) + (f (4 * c + 3))), mv_I 4]) (st' := [mv_I ((10 * ((10 * ((10 * ((10 * 0) + (f (4 * c)))) + (f (4 * c + 1)))) + (f (4 * c + 2)))) + (f (4 * c + 3)))]) (M1 := M) rfl ?_
  exact mv_Ru.val (mv_ret (fun n => rfl) (rfl)) (congrArg mv_I (by unfold sp_dg; omega))
theorem sp_cpd31 {M : mv_M} {v : Int} {c : Nat} (hv0 : 0 ≤ v) (hv : v ≤ 9999) (hc : c < 6) : mv_Ru 0 108 0 [mv_R 31, mv_I (c : Int), mv_I v, mv_U, mv_U] [] M mv_U (fun M1 => mv_ag [31] M M1 ∧ M1 31 = sp_pd (M 31) c v) := by
  have t1 := sp_td hv0
  have t2 := sp_td t1.1
  have t3 := sp_td t2.1
  have t4 := sp_td t3.1
  have m0 := sp_tm hv0
  have m1 := sp_tm t1.1
  have m2 := sp_tm t2.1
  have m3 := sp_tm t3.1
  refine mv_go' 4 (pc' := 5) (ls' := [mv_R 31, mv_I (c : Int), mv_I v, mv_I v, mv_I 3]) (st' := []) (M1 := M) rfl ?_
  refine mv_go' 2 (pc' := if 3 < 0 then 33 else 10) (ls' := [mv_R 31, mv_I (c : Int), mv_I v, mv_I v, mv_I 3]) (st' := []) (M1 := M) rfl ?_
  refine mv_ff' (by decide) ?_
  refine mv_go' 9 (pc' := if 10 = 0 then mv_bad else 21) (ls' := [mv_R 31, mv_I (c : Int), mv_I v, mv_I v, mv_I 3]) (st' := [mv_I (mv_w (v.tmod 10)), mv_I (mv_w ((mv_w ((c : Int) * 4)) + 3)), mv_R 31]) (M1 := M) rfl ?_
  refine mv_ff' (by first | omega | decide) ?_
  rw [show mv_w ((mv_w ((c : Int) * 4)) + 3) = ((4 * c + 3 : Nat) : Int) from by (rw [show mv_w ((c : Int) * 4) = (c : Int) * 4 from mv_w_id (by omega) (by omega), show mv_w (((c : Int) * 4) + 3) = ((c : Int) * 4) + 3 from mv_w_id (by omega) (by omega)]) <;> omega]
  refine mv_go' 1 (pc' := if 0 ≤ ((4 * c + 3 : Nat) : Int) ∧ ((4 * c + 3 : Nat) : Int) < 24 then 22 else mv_bad) (ls' := [mv_R 31, mv_I (c : Int), mv_I v, mv_I v, mv_I 3]) (st' := []) (M1 := (mv_st M 31 (mv_up (M 31) (4 * c + 3) (mv_w (v.tmod 10))))) rfl ?_
  refine mv_tt' (by first | omega | decide) ?_
  refine mv_go' 3 (pc' := if 10 = 0 then mv_bad else 26) (ls' := [mv_R 31, mv_I (c : Int), mv_I v, mv_I v, mv_I 3]) (st' := [mv_I (mv_w (v.tdiv 10))]) (M1 := (mv_st M 31 (mv_up (M 31) (4 * c + 3) (mv_w (v.tmod 10))))) rfl ?_
  refine mv_ff' (by first | omega | decide) ?_
  refine mv_go' 3 (pc' := 5) (ls' := [mv_R 31, mv_I (c : Int), mv_I v, mv_I (mv_w (v.tdiv 10)), mv_I (mv_w (3 + (-1)))]) (st' := []) (M1 := (mv_st M 31 (mv_up (M 31) (4 * c + 3) (mv_w (v.tmod 10))))) rfl ?_
  rw [show mv_w (3 + (-1)) = 2 from by (rw [show mv_w (3 + (-1)) = 3 + (-1) from mv_w_id (by omega) (by omega)]) <;> omega]
  rw [show mv_w (v.tdiv 10) = v.tdiv 10 from mv_w_id (by omega) (by omega)]
  rw [show mv_w (v.tmod 10) = v.tmod 10 from mv_w_id (by omega) (by omega)]
  refine mv_go' 2 (pc' := if 2 < 0 then 33 else 10) (ls' := [mv_R 31, mv_I (c : Int), mv_I v, mv_I (v.tdiv 10), mv_I 2]) (st' := []) (M1 := (mv_st M 31 (mv_up (M 31) (4 * c + 3) (v.tmod 10)))) rfl ?_
  refine mv_ff' (by decide) ?_
  refine mv_go' 9 (pc' := if 10 = 0 then mv_bad else 21) (ls' := [mv_R 31, mv_I (c : Int), mv_I v, mv_I (v.tdiv 10), mv_I 2]) (st' := [mv_I (mv_w ((v.tdiv 10).tmod 10)), mv_I (mv_w ((mv_w ((c : Int) * 4)) + 2)), mv_R 31]) (M1 := (mv_st M 31 (mv_up (M 31) (4 * c + 3) (v.tmod 10)))) rfl ?_
  refine mv_ff' (by first | omega | decide) ?_
  rw [show mv_w ((mv_w ((c : Int) * 4)) + 2) = ((4 * c + 2 : Nat) : Int) from by (rw [show mv_w ((c : Int) * 4) = (c : Int) * 4 from mv_w_id (by omega) (by omega), show mv_w (((c : Int) * 4) + 2) = ((c : Int) * 4) + 2 from mv_w_id (by omega) (by omega)]) <;> omega]
  refine mv_go' 1 (pc' := if 0 ≤ ((4 * c + 2 : Nat) : Int) ∧ ((4 * c + 2 : Nat) : Int) < 24 then 22 else mv_bad) (ls' := [mv_R 31, mv_I (c : Int), mv_I v, mv_I (v.tdiv 10), mv_I 2]) (st' := []) (M1 := (mv_st (mv_st M 31 (mv_up (M 31) (4 * c + 3) (v.tmod 10))) 31 (mv_up (mv_up (M 31) (4 * c + 3) (v.tmod 10)) (4 * c + 2) (mv_w ((v.tdiv 10).tmod 10))))) rfl ?_
  refine mv_tt' (by first | omega | decide) ?_
  refine mv_go' 3 (pc' := if 10 = 0 then mv_bad else 26) (ls' := [mv_R 31, mv_I (c : Int), mv_I v, mv_I (v.tdiv 10), mv_I 2]) (st' := [mv_I (mv_w ((v.tdiv 10).tdiv 10))]) (M1 := (mv_st (mv_st M 31 (mv_up (M 31) (4 * c + 3) (v.tmod 10))) 31 (mv_up (mv_up (M 31) (4 * c + 3) (v.tmod 10)) (4 * c + 2) (mv_w ((v.tdiv 10).tmod 10))))) rfl ?_
  refine mv_ff' (by first | omega | decide) ?_
  refine mv_go' 3 (pc' := 5) (ls' := [mv_R 31, mv_I (c : Int), mv_I v, mv_I (mv_w ((v.tdiv 10).tdiv 10)), mv_I (mv_w (2 + (-1)))]) (st' := []) (M1 := (mv_st (mv_st M 31 (mv_up (M 31) (4 * c + 3) (v.tmod 10))) 31 (mv_up (mv_up (M 31) (4 * c + 3) (v.tmod 10)) (4 * c + 2) (mv_w ((v.tdiv 10).tmod 10))))) rfl ?_
  rw [show mv_w (2 + (-1)) = 1 from by (rw [show mv_w (2 + (-1)) = 2 + (-1) from mv_w_id (by omega) (by omega)]) <;> omega]
  rw [show mv_w ((v.tdiv 10).tdiv 10) = (v.tdiv 10).tdiv 10 from mv_w_id (by omega) (by omega)]
  rw [show mv_w ((v.tdiv 10).tmod 10) = (v.tdiv 10).tmod 10 from mv_w_id (by omega) (by omega)]
  refine mv_go' 2 (pc' := if 1 < 0 then 33 else 10) (ls' := [mv_R 31, mv_I (c : Int), mv_I v, mv_I ((v.tdiv 10).tdiv 10), mv_I 1]) (st' := []) (M1 := (mv_st (mv_st M 31 (mv_up (M 31) (4 * c + 3) (v.tmod 10))) 31 (mv_up (mv_up (M 31) (4 * c + 3) (v.tmod 10)) (4 * c + 2) ((v.tdiv 10).tmod 10)))) rfl ?_
  refine mv_ff' (by decide) ?_
  refine mv_go' 9 (pc' := if 10 = 0 then mv_bad else 21) (ls' := [mv_R 31, mv_I (c : Int), mv_I v, mv_I ((v.tdiv 10).tdiv 10), mv_I 1]) (st' := [mv_I (mv_w (((v.tdiv 10).tdiv 10).tmod 10)), mv_I (mv_w ((mv_w ((c : Int) * 4)) + 1)), mv_R 31]) (M1 := (mv_st (mv_st M 31 (mv_up (M 31) (4 * c + 3) (v.tmod 10))) 31 (mv_up (mv_up (M 31) (4 * c + 3) (v.tmod 10)) (4 * c + 2) ((v.tdiv 10).tmod 10)))) rfl ?_
  refine mv_ff' (by first | omega | decide) ?_
  rw [show mv_w ((mv_w ((c : Int) * 4)) + 1) = ((4 * c + 1 : Nat) : Int) from by (rw [show mv_w ((c : Int) * 4) = (c : Int) * 4 from mv_w_id (by omega) (by omega), show mv_w (((c : Int) * 4) + 1) = ((c : Int) * 4) + 1 from mv_w_id (by omega) (by omega)]) <;> omega]
  refine mv_go' 1 (pc' := if 0 ≤ ((4 * c + 1 : Nat) : Int) ∧ ((4 * c + 1 : Nat) : Int) < 24 then 22 else mv_bad) (ls' := [mv_R 31, mv_I (c : Int), mv_I v, mv_I ((v.tdiv 10).tdiv 10), mv_I 1]) (st' := []) (M1 := (mv_st (mv_st (mv_st M 31 (mv_up (M 31) (4 * c + 3) (v.tmod 10))) 31 (mv_up (mv_up (M 31) (4 * c + 3) (v.tmod 10)) (4 * c + 2) ((v.tdiv 10).tmod 10))) 31 (mv_up (mv_up (mv_up (M 31) (4 * c + 3) (v.tmod 10)) (4 * c + 2) ((v.tdiv 10).tmod 10)) (4 * c + 1) (mv_w (((v.tdiv 10).tdiv 10).tmod 10))))) rfl ?_
  refine mv_tt' (by first | omega | decide) ?_
  refine mv_go' 3 (pc' := if 10 = 0 then mv_bad else 26) (ls' := [mv_R 31, mv_I (c : Int), mv_I v, mv_I ((v.tdiv 10).tdiv 10), mv_I 1]) (st' := [mv_I (mv_w (((v.tdiv 10).tdiv 10).tdiv 10))]) (M1 := (mv_st (mv_st (mv_st M 31 (mv_up (M 31) (4 * c + 3) (v.tmod 10))) 31 (mv_up (mv_up (M 31) (4 * c + 3) (v.tmod 10)) (4 * c + 2) ((v.tdiv 10).tmod 10))) 31 (mv_up (mv_up (mv_up (M 31) (4 * c + 3) (v.tmod 10)) (4 * c + 2) ((v.tdiv 10).tmod 10)) (4 * c + 1) (mv_w (((v.tdiv 10).tdiv 10).tmod 10))))) rfl ?_
  refine mv_ff' (by first | omega | decide) ?_
  refine mv_go' 3 (pc' := 5) (ls' := [mv_R 31, mv_I (c : Int), mv_I v, mv_I (mv_w (((v.tdiv 10).tdiv 10).tdiv 10)), mv_I (mv_w (1 + (-1)))]) (st' := []) (M1 := (mv_st (mv_st (mv_st M 31 (mv_up (M 31) (4 * c + 3) (v.tmod 10))) 31 (mv_up (mv_up (M 31) (4 * c + 3) (v.tmod 10)) (4 * c + 2) ((v.tdiv 10).tmod 10))) 31 (mv_up (mv_up (mv_up (M 31) (4 * c + 3) (v.tmod 10)) (4 * c + 2) ((v.tdiv 10).tmod 10)) (4 * c + 1) (mv_w (((v.tdiv 10).tdiv 10).tmod 10))))) rfl ?_
  rw [show mv_w (1 + (-1)) = 0 from by (rw [show mv_w (1 + (-1)) = 1 + (-1) from mv_w_id (by omega) (by omega)]) <;> omega]
  rw [show mv_w (((v.tdiv 10).tdiv 10).tdiv 10) = ((v.tdiv 10).tdiv 10).tdiv 10 from mv_w_id (by omega) (by omega)]
  rw [show mv_w (((v.tdiv 10).tdiv 10).tmod 10) = ((v.tdiv 10).tdiv 10).tmod 10 from mv_w_id (by omega) (by omega)]
  refine mv_go' 2 (pc' := if 0 < 0 then 33 else 10) (ls' := [mv_R 31, mv_I (c : Int), mv_I v, mv_I (((v.tdiv 10).tdiv 10).tdiv 10), mv_I 0]) (st' := []) (M1 := (mv_st (mv_st (mv_st M 31 (mv_up (M 31) (4 * c + 3) (v.tmod 10))) 31 (mv_up (mv_up (M 31) (4 * c + 3) (v.tmod 10)) (4 * c + 2) ((v.tdiv 10).tmod 10))) 31 (mv_up (mv_up (mv_up (M 31) (4 * c + 3) (v.tmod 10)) (4 * c + 2) ((v.tdiv 10).tmod 10)) (4 * c + 1) (((v.tdiv 10).tdiv 10).tmod 10)))) rfl ?_
  refine mv_ff' (by decide) ?_
  refine mv_go' 9 (pc' := if 10 = 0 then mv_bad else 21) (ls' := [mv_R 31, mv_I (c : Int), mv_I v, mv_I (((v.tdiv 10).tdiv 10).tdiv 10), mv_I 0]) (st' := [mv_I (mv_w ((((v.tdiv 10).tdiv 10).tdiv 10).tmod 10)), mv_I (mv_w ((mv_w ((c : Int) * 4)) + 0)), mv_R 31]) (M1 := (mv_st (mv_st (mv_st M 31 (mv_up (M 31) (4 * c + 3) (v.tmod 10))) 31 (mv_up (mv_up (M 31) (4 * c + 3) (v.tmod 10)) (4 * c + 2) ((v.tdiv 10).tmod 10))) 31 (mv_up (mv_up (mv_up (M 31) (4 * c + 3) (v.tmod 10)) (4 * c + 2) ((v.tdiv 10).tmod 10)) (4 * c + 1) (((v.tdiv 10).tdiv 10).tmod 10)))) rfl ?_
  refine mv_ff' (by first | omega | decide) ?_
  rw [show mv_w ((mv_w ((c : Int) * 4)) + 0) = ((4 * c : Nat) : Int) from by (rw [show mv_w ((c : Int) * 4) = (c : Int) * 4 from mv_w_id (by omega) (by omega), show mv_w (((c : Int) * 4) + 0) = ((c : Int) * 4) + 0 from mv_w_id (by omega) (by omega)]) <;> omega]
  refine mv_go' 1 (pc' := if 0 ≤ ((4 * c : Nat) : Int) ∧ ((4 * c : Nat) : Int) < 24 then 22 else mv_bad) (ls' := [mv_R 31, mv_I (c : Int), mv_I v, mv_I (((v.tdiv 10).tdiv 10).tdiv 10), mv_I 0]) (st' := []) (M1 := (mv_st (mv_st (mv_st (mv_st M 31 (mv_up (M 31) (4 * c + 3) (v.tmod 10))) 31 (mv_up (mv_up (M 31) (4 * c + 3) (v.tmod 10)) (4 * c + 2) ((v.tdiv 10).tmod 10))) 31 (mv_up (mv_up (mv_up (M 31) (4 * c + 3) (v.tmod 10)) (4 * c + 2) ((v.tdiv 10).tmod 10)) (4 * c + 1) (((v.tdiv 10).tdiv 10).tmod 10))) 31 (mv_up (mv_up (mv_up (mv_up (M 31) (4 * c + 3) (v.tmod 10)) (4 * c + 2) ((v.tdiv 10).tmod 10)) (4 * c + 1) (((v.tdiv 10).tdiv 10).tmod 10)) (4 * c) (mv_w ((((v.tdiv 10).tdiv 10).tdiv 10).tmod 10))))) rfl ?_
  refine mv_tt' (by first | omega | decide) ?_
  refine mv_go' 3 (pc' := if 10 = 0 then mv_bad else 26) (ls' := [mv_R 31, mv_I (c : Int), mv_I v, mv_I (((v.tdiv 10).tdiv 10).tdiv 10), mv_I 0]) (st' := [mv_I (mv_w ((((v.tdiv 10).tdiv 10).tdiv 10).tdiv 10))]) (M1 := (mv_st (mv_st (mv_st (mv_st M 31 (mv_up (M 31) (4 * c + 3) (v.tmod 10))) 31 (mv_up (mv_up (M 31) (4 * c + 3) (v.tmod 10)) (4 * c + 2) ((v.tdiv 10).tmod 10))) 31 (mv_up (mv_up (mv_up (M 31) (4 * c + 3) (v.tmod 10)) (4 * c + 2) ((v.tdiv 10).tmod 10)) (4 * c + 1) (((v.tdiv 10).tdiv 10).tmod 10))) 31 (mv_up (mv_up (mv_up (mv_up (M 31) (4 * c + 3) (v.tmod 10)) (4 * c + 2) ((v.tdiv 10).tmod 10)) (4 * c + 1) (((v.tdiv 10).tdiv 10).tmod 10)) (4 * c) (mv_w ((((v.tdiv 10).tdiv 10).tdiv 10).tmod 10))))) rfl ?_
  refine mv_ff' (by first | omega | decide) ?_
  refine mv_go' 3 (pc' := 5) (ls' := [mv_R 31, mv_I (c : Int), mv_I v, mv_I (mv_w ((((v.tdiv 10).tdiv 10).tdiv 10).tdiv 10)), mv_I (mv_w (0 + (-1)))]) (st' := []) (M1 := (mv_st (mv_st (mv_st (mv_st M 31 (mv_up (M 31) (4 * c + 3) (v.tmod 10))) 31 (mv_up (mv_up (M 31) (4 * c + 3) (v.tmod 10)) (4 * c + 2) ((v.tdiv 10).tmod 10))) 31 (mv_up (mv_up (mv_up (M 31) (4 * c + 3) (v.tmod 10)) (4 * c + 2) ((v.tdiv 10).tmod 10)) (4 * c + 1) (((v.tdiv 10).tdiv 10).tmod 10))) 31 (mv_up (mv_up (mv_up (mv_up (M 31) (4 * c + 3) (v.tmod 10)) (4 * c + 2) ((v.tdiv 10).tmod 10)) (4 * c + 1) (((v.tdiv 10).tdiv 10).tmod 10)) (4 * c) (mv_w ((((v.tdiv 10).tdiv 10).tdiv 10).tmod 10))))) rfl ?_
  rw [show mv_w ((((v.tdiv 10).tdiv 10).tdiv 10).tdiv 10) = (((v.tdiv 10).tdiv 10).tdiv 10).tdiv 10 from mv_w_id (by omega) (by omega)]
  rw [show mv_w (0 + (-1)) = 0 + (-1) from mv_w_id (by omega) (by omega)]
  rw [show mv_w ((((v.tdiv 10).tdiv 10).tdiv 10).tmod 10) = (((v.tdiv 10).tdiv 10).tdiv 10).tmod 10 from mv_w_id (by omega) (by omega)]
  refine mv_go' 2 (pc' := if (0 + (-1)) < 0 then 33 else 10) (ls' := [mv_R 31, mv_I (c : Int), mv_I v, mv_I ((((v.tdiv 10).tdiv 10).tdiv 10).tdiv 10), mv_I (0 + (-1))]) (st' := []) (M1 := (mv_st (mv_st (mv_st (mv_st M 31 (mv_up (M 31) (4 * c + 3) (v.tmod 10))) 31 (mv_up (mv_up (M 31) (4 * c + 3) (v.tmod 10)) (4 * c + 2) ((v.tdiv 10).tmod 10))) 31 (mv_up (mv_up (mv_up (M 31) (4 * c + 3) (v.tmod 10)) (4 * c + 2) ((v.tdiv 10).tmod 10)) (4 * c + 1) (((v.tdiv 10).tdiv 10).tmod 10))) 31 (mv_up (mv_up (mv_up (mv_up (M 31) (4 * c + 3) (v.tmod 10)) (4 * c + 2) ((v.tdiv 10).tmod 10)) (4 * c + 1) (((v.tdiv 10).tdiv 10).tmod 10)) (4 * c) ((((v.tdiv 10).tdiv 10).tdiv 10).tmod 10)))) rfl ?_
  refine mv_tt' (by decide) ?_
  exact mv_ret (fun n => rfl) (⟨by repeat (first | exact mv_ag.rf | refine mv_ag.st ?_ (by decide)), rfl⟩)
theorem sp_cpd33 {M : mv_M} {v : Int} {c : Nat} (hv0 : 0 ≤ v) (hv : v ≤ 9999) (hc : c < 6) : mv_Ru 0 108 0 [mv_R 33, mv_I (c : Int), mv_I v, mv_U, mv_U] [] M mv_U (fun M1 => mv_ag [33] M M1 ∧ M1 33 = sp_pd (M 33) c v) := by
  have t1 := sp_td hv0
  have t2 := sp_td t1.1
  have t3 := sp_td t2.1
  have t4 := sp_td t3.1
  have m0 := sp_tm hv0
  have m1 := sp_tm t1.1
  have m2 := sp_tm t2.1
  have m3 := sp_tm t3.1
  refine mv_go' 4 (pc' := 5) (ls' := [mv_R 33, mv_I (c : Int), mv_I v, mv_I v, mv_I 3]) (st' := []) (M1 := M) rfl ?_
  refine mv_go' 2 (pc' := if 3 < 0 then 33 else 10) (ls' := [mv_R 33, mv_I (c : Int), mv_I v, mv_I v, mv_I 3]) (st' := []) (M1 := M) rfl ?_
  refine mv_ff' (by decide) ?_
  refine mv_go' 9 (pc' := if 10 = 0 then mv_bad else 21) (ls' := [mv_R 33, mv_I (c : Int), mv_I v, mv_I v, mv_I 3]) (st' := [mv_I (mv_w (v.tmod 10)), mv_I (mv_w ((mv_w ((c : Int) * 4)) + 3)), mv_R 33]) (M1 := M) rfl ?_
  refine mv_ff' (by first | omega | decide) ?_
  rw [show mv_w ((mv_w ((c : Int) * 4)) + 3) = ((4 * c + 3 : Nat) : Int) from by (rw [show mv_w ((c : Int) * 4) = (c : Int) * 4 from mv_w_id (by omega) (by omega), show mv_w (((c : Int) * 4) + 3) = ((c : Int) * 4) + 3 from mv_w_id (by omega) (by omega)]) <;> omega]
  refine mv_go' 1 (pc' := if 0 ≤ ((4 * c + 3 : Nat) : Int) ∧ ((4 * c + 3 : Nat) : Int) < 24 then 22 else mv_bad) (ls' := [mv_R 33, mv_I (c : Int), mv_I v, mv_I v, mv_I 3]) (st' := []) (M1 := (mv_st M 33 (mv_up (M 33) (4 * c + 3) (mv_w (v.tmod 10))))) rfl ?_
  refine mv_tt' (by first | omega | decide) ?_
  refine mv_go' 3 (pc' := if 10 = 0 then mv_bad else 26) (ls' := [mv_R 33, mv_I (c : Int), mv_I v, mv_I v, mv_I 3]) (st' := [mv_I (mv_w (v.tdiv 10))]) (M1 := (mv_st M 33 (mv_up (M 33) (4 * c + 3) (mv_w (v.tmod 10))))) rfl ?_
  refine mv_ff' (by first | omega | decide) ?_
  refine mv_go' 3 (pc' := 5) (ls' := [mv_R 33, mv_I (c : Int), mv_I v, mv_I (mv_w (v.tdiv 10)), mv_I (mv_w (3 + (-1)))]) (st' := []) (M1 := (mv_st M 33 (mv_up (M 33) (4 * c + 3) (mv_w (v.tmod 10))))) rfl ?_
  rw [show mv_w (3 + (-1)) = 2 from by (rw [show mv_w (3 + (-1)) = 3 + (-1) from mv_w_id (by omega) (by omega)]) <;> omega]
  rw [show mv_w (v.tdiv 10) = v.tdiv 10 from mv_w_id (by omega) (by omega)]
  rw [show mv_w (v.tmod 10) = v.tmod 10 from mv_w_id (by omega) (by omega)]
  refine mv_go' 2 (pc' := if 2 < 0 then 33 else 10) (ls' := [mv_R 33, mv_I (c : Int), mv_I v, mv_I (v.tdiv 10), mv_I 2]) (st' := []) (M1 := (mv_st M 33 (mv_up (M 33) (4 * c + 3) (v.tmod 10)))) rfl ?_
  refine mv_ff' (by decide) ?_
  refine mv_go' 9 (pc' := if 10 = 0 then mv_bad else 21) (ls' := [mv_R 33, mv_I (c : Int), mv_I v, mv_I (v.tdiv 10), mv_I 2]) (st' := [mv_I (mv_w ((v.tdiv 10).tmod 10)), mv_I (mv_w ((mv_w ((c : Int) * 4)) + 2)), mv_R 33]) (M1 := (mv_st M 33 (mv_up (M 33) (4 * c + 3) (v.tmod 10)))) rfl ?_
  refine mv_ff' (by first | omega | decide) ?_
  rw [show mv_w ((mv_w ((c : Int) * 4)) + 2) = ((4 * c + 2 : Nat) : Int) from by (rw [show mv_w ((c : Int) * 4) = (c : Int) * 4 from mv_w_id (by omega) (by omega), show mv_w (((c : Int) * 4) + 2) = ((c : Int) * 4) + 2 from mv_w_id (by omega) (by omega)]) <;> omega]
  refine mv_go' 1 (pc' := if 0 ≤ ((4 * c + 2 : Nat) : Int) ∧ ((4 * c + 2 : Nat) : Int) < 24 then 22 else mv_bad) (ls' := [mv_R 33, mv_I (c : Int), mv_I v, mv_I (v.tdiv 10), mv_I 2]) (st' := []) (M1 := (mv_st (mv_st M 33 (mv_up (M 33) (4 * c + 3) (v.tmod 10))) 33 (mv_up (mv_up (M 33) (4 * c + 3) (v.tmod 10)) (4 * c + 2) (mv_w ((v.tdiv 10).tmod 10))))) rfl ?_
  refine mv_tt' (by first | omega | decide) ?_
  refine mv_go' 3 (pc' := if 10 = 0 then mv_bad else 26) (ls' := [mv_R 33, mv_I (c : Int), mv_I v, mv_I (v.tdiv 10), mv_I 2]) (st' := [mv_I (mv_w ((v.tdiv 10).tdiv 10))]) (M1 := (mv_st (mv_st M 33 (mv_up (M 33) (4 * c + 3) (v.tmod 10))) 33 (mv_up (mv_up (M 33) (4 * c + 3) (v.tmod 10)) (4 * c + 2) (mv_w ((v.tdiv 10).tmod 10))))) rfl ?_
  refine mv_ff' (by first | omega | decide) ?_
  refine mv_go' 3 (pc' := 5) (ls' := [mv_R 33, mv_I (c : Int), mv_I v, mv_I (mv_w ((v.tdiv 10).tdiv 10)), mv_I (mv_w (2 + (-1)))]) (st' := []) (M1 := (mv_st (mv_st M 33 (mv_up (M 33) (4 * c + 3) (v.tmod 10))) 33 (mv_up (mv_up (M 33) (4 * c + 3) (v.tmod 10)) (4 * c + 2) (mv_w ((v.tdiv 10).tmod 10))))) rfl ?_
  rw [show mv_w (2 + (-1)) = 1 from by (rw [show mv_w (2 + (-1)) = 2 + (-1) from mv_w_id (by omega) (by omega)]) <;> omega]
  rw [show mv_w ((v.tdiv 10).tdiv 10) = (v.tdiv 10).tdiv 10 from mv_w_id (by omega) (by omega)]
  rw [show mv_w ((v.tdiv 10).tmod 10) = (v.tdiv 10).tmod 10 from mv_w_id (by omega) (by omega)]
  refine mv_go' 2 (pc' := if 1 < 0 then 33 else 10) (ls' := [mv_R 33, mv_I (c : Int), mv_I v, mv_I ((v.tdiv 10).tdiv 10), mv_I 1]) (st' := []) (M1 := (mv_st (mv_st M 33 (mv_up (M 33) (4 * c + 3) (v.tmod 10))) 33 (mv_up (mv_up (M 33) (4 * c + 3) (v.tmod 10)) (4 * c + 2) ((v.tdiv 10).tmod 10)))) rfl ?_
  refine mv_ff' (by decide) ?_
  refine mv_go' 9 (pc' := if 10 = 0 then mv_bad else 21) (ls' := [mv_R 33, mv_I (c : Int), mv_I v, mv_I ((v.tdiv 10).tdiv 10), mv_I 1]) (st' := [mv_I (mv_w (((v.tdiv 10).tdiv 10).tmod 10)), mv_I (mv_w ((mv_w ((c : Int) * 4)) + 1)), mv_R 33]) (M1 := (mv_st (mv_st M 33 (mv_up (M 33) (4 * c + 3) (v.tmod 10))) 33 (mv_up (mv_up (M 33) (4 * c + 3) (v.tmod 10)) (4 * c + 2) ((v.tdiv 10).tmod 10)))) rfl ?_
  refine mv_ff' (by first | omega | decide) ?_
  rw [show mv_w ((mv_w ((c : Int) * 4)) + 1) = ((4 * c + 1 : Nat) : Int) from by (rw [show mv_w ((c : Int) * 4) = (c : Int) * 4 from mv_w_id (by omega) (by omega), show mv_w (((c : Int) * 4) + 1) = ((c : Int) * 4) + 1 from mv_w_id (by omega) (by omega)]) <;> omega]
  refine mv_go' 1 (pc' := if 0 ≤ ((4 * c + 1 : Nat) : Int) ∧ ((4 * c + 1 : Nat) : Int) < 24 then 22 else mv_bad) (ls' := [mv_R 33, mv_I (c : Int), mv_I v, mv_I ((v.tdiv 10).tdiv 10), mv_I 1]) (st' := []) (M1 := (mv_st (mv_st (mv_st M 33 (mv_up (M 33) (4 * c + 3) (v.tmod 10))) 33 (mv_up (mv_up (M 33) (4 * c + 3) (v.tmod 10)) (4 * c + 2) ((v.tdiv 10).tmod 10))) 33 (mv_up (mv_up (mv_up (M 33) (4 * c + 3) (v.tmod 10)) (4 * c + 2) ((v.tdiv 10).tmod 10)) (4 * c + 1) (mv_w (((v.tdiv 10).tdiv 10).tmod 10))))) rfl ?_
  refine mv_tt' (by first | omega | decide) ?_
  refine mv_go' 3 (pc' := if 10 = 0 then mv_bad else 26) (ls' := [mv_R 33, mv_I (c : Int), mv_I v, mv_I ((v.tdiv 10).tdiv 10), mv_I 1]) (st' := [mv_I (mv_w (((v.tdiv 10).tdiv 10).tdiv 10))]) (M1 := (mv_st (mv_st (mv_st M 33 (mv_up (M 33) (4 * c + 3) (v.tmod 10))) 33 (mv_up (mv_up (M 33) (4 * c + 3) (v.tmod 10)) (4 * c + 2) ((v.tdiv 10).tmod 10))) 33 (mv_up (mv_up (mv_up (M 33) (4 * c + 3) (v.tmod 10)) (4 * c + 2) ((v.tdiv 10).tmod 10)) (4 * c + 1) (mv_w (((v.tdiv 10).tdiv 10).tmod 10))))) rfl ?_
  refine mv_ff' (by first | omega | decide) ?_
  refine mv_go' 3 (pc' := 5) (ls' := [mv_R 33, mv_I (c : Int), mv_I v, mv_I (mv_w (((v.tdiv 10).tdiv 10).tdiv 10)), mv_I (mv_w (1 + (-1)))]) (st' := []) (M1 := (mv_st (mv_st (mv_st M 33 (mv_up (M 33) (4 * c + 3) (v.tmod 10))) 33 (mv_up (mv_up (M 33) (4 * c + 3) (v.tmod 10)) (4 * c + 2) ((v.tdiv 10).tmod 10))) 33 (mv_up (mv_up (mv_up (M 33) (4 * c + 3) (v.tmod 10)) (4 * c + 2) ((v.tdiv 10).tmod 10)) (4 * c + 1) (mv_w (((v.tdiv 10).tdiv 10).tmod 10))))) rfl ?_
  rw [show mv_w (1 + (-1)) = 0 from by (rw [show mv_w (1 + (-1)) = 1 + (-1) from mv_w_id (by omega) (by omega)]) <;> omega]
  rw [show mv_w (((v.tdiv 10).tdiv 10).tdiv 10) = ((v.tdiv 10).tdiv 10).tdiv 10 from mv_w_id (by omega) (by omega)]
  rw [show mv_w (((v.tdiv 10).tdiv 10).tmod 10) = ((v.tdiv 10).tdiv 10).tmod 10 from mv_w_id (by omega) (by omega)]
  refine mv_go' 2 (pc' := if 0 < 0 then 33 else 10) (ls' := [mv_R 33, mv_I (c : Int), mv_I v, mv_I (((v.tdiv 10).tdiv 10).tdiv 10), mv_I 0]) (st' := []) (M1 := (mv_st (mv_st (mv_st M 33 (mv_up (M 33) (4 * c + 3) (v.tmod 10))) 33 (mv_up (mv_up (M 33) (4 * c + 3) (v.tmod 10)) (4 * c + 2) ((v.tdiv 10).tmod 10))) 33 (mv_up (mv_up (mv_up (M 33) (4 * c + 3) (v.tmod 10)) (4 * c + 2) ((v.tdiv 10).tmod 10)) (4 * c + 1) (((v.tdiv 10).tdiv 10).tmod 10)))) rfl ?_
  refine mv_ff' (by decide) ?_
  refine mv_go' 9 (pc' := if 10 = 0 then mv_bad else 21) (ls' := [mv_R 33, mv_I (c : Int), mv_I v, mv_I (((v.tdiv 10).tdiv 10).tdiv 10), mv_I 0]) (st' := [mv_I (mv_w ((((v.tdiv 10).tdiv 10).tdiv 10).tmod 10)), mv_I (mv_w ((mv_w ((c : Int) * 4)) + 0)), mv_R 33]) (M1 := (mv_st (mv_st (mv_st M 33 (mv_up (M 33) (4 * c + 3) (v.tmod 10))) 33 (mv_up (mv_up (M 33) (4 * c + 3) (v.tmod 10)) (4 * c + 2) ((v.tdiv 10).tmod 10))) 33 (mv_up (mv_up (mv_up (M 33) (4 * c + 3) (v.tmod 10)) (4 * c + 2) ((v.tdiv 10).tmod 10)) (4 * c + 1) (((v.tdiv 10).tdiv 10).tmod 10)))) rfl ?_
  refine mv_ff' (by first | omega | decide) ?_
  rw [show mv_w ((mv_w ((c : Int) * 4)) + 0) = ((4 * c : Nat) : Int) from by (rw [show mv_w ((c : Int) * 4) = (c : Int) * 4 from mv_w_id (by omega) (by omega), show mv_w (((c : Int) * 4) + 0) = ((c : Int) * 4) + 0 from mv_w_id (by omega) (by omega)]) <;> omega]
  refine mv_go' 1 (pc' := if 0 ≤ ((4 * c : Nat) : Int) ∧ ((4 * c : Nat) : Int) < 24 then 22 else mv_bad) (ls' := [mv_R 33, mv_I (c : Int), mv_I v, mv_I (((v.tdiv 10).tdiv 10).tdiv 10), mv_I 0]) (st' := []) (M1 := (mv_st (mv_st (mv_st (mv_st M 33 (mv_up (M 33) (4 * c + 3) (v.tmod 10))) 33 (mv_up (mv_up (M 33) (4 * c + 3) (v.tmod 10)) (4 * c + 2) ((v.tdiv 10).tmod 10))) 33 (mv_up (mv_up (mv_up (M 33) (4 * c + 3) (v.tmod 10)) (4 * c + 2) ((v.tdiv 10).tmod 10)) (4 * c + 1) (((v.tdiv 10).tdiv 10).tmod 10))) 33 (mv_up (mv_up (mv_up (mv_up (M 33) (4 * c + 3) (v.tmod 10)) (4 * c + 2) ((v.tdiv 10).tmod 10)) (4 * c + 1) (((v.tdiv 10).tdiv 10).tmod 10)) (4 * c) (mv_w ((((v.tdiv 10).tdiv 10).tdiv 10).tmod 10))))) rfl ?_
  refine mv_tt' (by first | omega | decide) ?_
  refine mv_go' 3 (pc' := if 10 = 0 then mv_bad else 26) (ls' := [mv_R 33, mv_I (c : Int), mv_I v, mv_I (((v.tdiv 10).tdiv 10).tdiv 10), mv_I 0]) (st' := [mv_I (mv_w ((((v.tdiv 10).tdiv 10).tdiv 10).tdiv 10))]) (M1 := (mv_st (mv_st (mv_st (mv_st M 33 (mv_up (M 33) (4 * c + 3) (v.tmod 10))) 33 (mv_up (mv_up (M 33) (4 * c + 3) (v.tmod 10)) (4 * c + 2) ((v.tdiv 10).tmod 10))) 33 (mv_up (mv_up (mv_up (M 33) (4 * c + 3) (v.tmod 10)) (4 * c + 2) ((v.tdiv 10).tmod 10)) (4 * c + 1) (((v.tdiv 10).tdiv 10).tmod 10))) 33 (mv_up (mv_up (mv_up (mv_up (M 33) (4 * c + 3) (v.tmod 10)) (4 * c + 2) ((v.tdiv 10).tmod 10)) (4 * c + 1) (((v.tdiv 10).tdiv 10).tmod 10)) (4 * c) (mv_w ((((v.tdiv 10).tdiv 10).tdiv 10).tmod 10))))) rfl ?_
  refine mv_ff' (by first | omega | decide) ?_
  refine mv_go' 3 (pc' := 5) (ls' := [mv_R 33, mv_I (c : Int), mv_I v, mv_I (mv_w ((((v.tdiv 10).tdiv 10).tdiv 10).tdiv 10)), mv_I (mv_w (0 + (-1)))]) (st' := []) (M1 := (mv_st (mv_st (mv_st (mv_st M 33 (mv_up (M 33) (4 * c + 3) (v.tmod 10))) 33 (mv_up (mv_up (M 33) (4 * c + 3) (v.tmod 10)) (4 * c + 2) ((v.tdiv 10).tmod 10))) 33 (mv_up (mv_up (mv_up (M 33) (4 * c + 3) (v.tmod 10)) (4 * c + 2) ((v.tdiv 10).tmod 10)) (4 * c + 1) (((v.tdiv 10).tdiv 10).tmod 10))) 33 (mv_up (mv_up (mv_up (mv_up (M 33) (4 * c + 3) (v.tmod 10)) (4 * c + 2) ((v.tdiv 10).tmod 10)) (4 * c + 1) (((v.tdiv 10).tdiv 10).tmod 10)) (4 * c) (mv_w ((((v.tdiv 10).tdiv 10).tdiv 10).tmod 10))))) rfl ?_
  rw [show mv_w ((((v.tdiv 10).tdiv 10).tdiv 10).tdiv 10) = (((v.tdiv 10).tdiv 10).tdiv 10).tdiv 10 from mv_w_id (by omega) (by omega)]
  rw [show mv_w (0 + (-1)) = 0 + (-1) from mv_w_id (by omega) (by omega)]
  rw [show mv_w ((((v.tdiv 10).tdiv 10).tdiv 10).tmod 10) = (((v.tdiv 10).tdiv 10).tdiv 10).tmod 10 from mv_w_id (by omega) (by omega)]
  refine mv_go' 2 (pc' := if (0 + (-1)) < 0 then 33 else 10) (ls' := [mv_R 33, mv_I (c : Int), mv_I v, mv_I ((((v.tdiv 10).tdiv 10).tdiv 10).tdiv 10), mv_I (0 + (-1))]) (st' := []) (M1 := (mv_st (mv_st (mv_st (mv_st M 33 (mv_up (M 33) (4 * c + 3) (v.tmod 10))) 33 (mv_up (mv_up (M 33) (4 * c + 3) (v.tmod 10)) (4 * c + 2) ((v.tdiv 10).tmod 10))) 33 (mv_up (mv_up (mv_up (M 33) (4 * c + 3) (v.tmod 10)) (4 * c + 2) ((v.tdiv 10).tmod 10)) (4 * c + 1) (((v.tdiv 10).tdiv 10).tmod 10))) 33 (mv_up (mv_up (mv_up (mv_up (M 33) (4 * c + 3) (v.tmod 10)) (4 * c + 2) ((v.tdiv 10).tmod 10)) (4 * c + 1) (((v.tdiv 10).tdiv 10).tmod 10)) (4 * c) ((((v.tdiv 10).tdiv 10).tdiv 10).tmod 10)))) rfl ?_
  refine mv_tt' (by decide) ?_
  exact mv_ret (fun n => rfl) (⟨by repeat (first | exact mv_ag.rf | refine mv_ag.st ?_ (by decide)), rfl⟩)
theorem sp_mpd104 {M : mv_M} {v : Int} {c : Nat} (hv0 : 0 ≤ v) (hv : v ≤ 9999) (hc : c < 6) : mv_Ru 0 118 0 [mv_R 100, mv_I (c : Int), mv_I v, mv_U, mv_U] [] M mv_U (fun M1 => mv_ag [104] M M1 ∧ M1 104 = sp_pd (M 104) c v) := by
  have t1 := sp_td hv0
  have t2 := sp_td t1.1
  have t3 := sp_td t2.1
  have t4 := sp_td t3.1
  have m0 := sp_tm hv0
  have m1 := sp_tm t1.1
  have m2 := sp_tm t2.1
  have m3 := sp_tm t3.1
  refine mv_go' 4 (pc' := 5) (ls' := [mv_R 100, mv_I (c : Int), mv_I v, mv_I v, mv_I 3]) (st' := []) (M1 := M) rfl ?_
  refine mv_go' 2 (pc' := if 3 < 0 then 36 else 10) (ls' := [mv_R 100, mv_I (c : Int), mv_I v, mv_I v, mv_I 3]) (st' := []) (M1 := M) rfl ?_
  refine mv_ff' (by decide) ?_
  refine mv_go' 10 (pc' := if 10 = 0 then mv_bad else 24) (ls' := [mv_R 100, mv_I (c : Int), mv_I v, mv_I v, mv_I 3]) (st' := [mv_I (mv_w (v.tmod 10)), mv_I (mv_w ((mv_w (4 * (c : Int))) + 3)), mv_R 104]) (M1 := M) rfl ?_
  refine mv_ff' (by first | omega | decide) ?_
  rw [show mv_w ((mv_w (4 * (c : Int))) + 3) = ((4 * c + 3 : Nat) : Int) from by (rw [show mv_w (4 * (c : Int)) = 4 * (c : Int) from mv_w_id (by omega) (by omega), show mv_w ((4 * (c : Int)) + 3) = (4 * (c : Int)) + 3 from mv_w_id (by omega) (by omega)]) <;> omega]
  refine mv_go' 1 (pc' := if 0 ≤ ((4 * c + 3 : Nat) : Int) ∧ ((4 * c + 3 : Nat) : Int) < 24 then 25 else mv_bad) (ls' := [mv_R 100, mv_I (c : Int), mv_I v, mv_I v, mv_I 3]) (st' := []) (M1 := (mv_st M 104 (mv_up (M 104) (4 * c + 3) (mv_w (v.tmod 10))))) rfl ?_
  refine mv_tt' (by first | omega | decide) ?_
  refine mv_go' 3 (pc' := if 10 = 0 then mv_bad else 29) (ls' := [mv_R 100, mv_I (c : Int), mv_I v, mv_I v, mv_I 3]) (st' := [mv_I (mv_w (v.tdiv 10))]) (M1 := (mv_st M 104 (mv_up (M 104) (4 * c + 3) (mv_w (v.tmod 10))))) rfl ?_
  refine mv_ff' (by first | omega | decide) ?_
  refine mv_go' 3 (pc' := 5) (ls' := [mv_R 100, mv_I (c : Int), mv_I v, mv_I (mv_w (v.tdiv 10)), mv_I (mv_w (3 + (-1)))]) (st' := []) (M1 := (mv_st M 104 (mv_up (M 104) (4 * c + 3) (mv_w (v.tmod 10))))) rfl ?_
  rw [show mv_w (3 + (-1)) = 2 from by (rw [show mv_w (3 + (-1)) = 3 + (-1) from mv_w_id (by omega) (by omega)]) <;> omega]
  rw [show mv_w (v.tdiv 10) = v.tdiv 10 from mv_w_id (by omega) (by omega)]
  rw [show mv_w (v.tmod 10) = v.tmod 10 from mv_w_id (by omega) (by omega)]
  refine mv_go' 2 (pc' := if 2 < 0 then 36 else 10) (ls' := [mv_R 100, mv_I (c : Int), mv_I v, mv_I (v.tdiv 10), mv_I 2]) (st' := []) (M1 := (mv_st M 104 (mv_up (M 104) (4 * c + 3) (v.tmod 10)))) rfl ?_
  refine mv_ff' (by decide) ?_
  refine mv_go' 10 (pc' := if 10 = 0 then mv_bad else 24) (ls' := [mv_R 100, mv_I (c : Int), mv_I v, mv_I (v.tdiv 10), mv_I 2]) (st' := [mv_I (mv_w ((v.tdiv 10).tmod 10)), mv_I (mv_w ((mv_w (4 * (c : Int))) + 2)), mv_R 104]) (M1 := (mv_st M 104 (mv_up (M 104) (4 * c + 3) (v.tmod 10)))) rfl ?_
  refine mv_ff' (by first | omega | decide) ?_
  rw [show mv_w ((mv_w (4 * (c : Int))) + 2) = ((4 * c + 2 : Nat) : Int) from by (rw [show mv_w (4 * (c : Int)) = 4 * (c : Int) from mv_w_id (by omega) (by omega), show mv_w ((4 * (c : Int)) + 2) = (4 * (c : Int)) + 2 from mv_w_id (by omega) (by omega)]) <;> omega]
  refine mv_go' 1 (pc' := if 0 ≤ ((4 * c + 2 : Nat) : Int) ∧ ((4 * c + 2 : Nat) : Int) < 24 then 25 else mv_bad) (ls' := [mv_R 100, mv_I (c : Int), mv_I v, mv_I (v.tdiv 10), mv_I 2]) (st' := []) (M1 := (mv_st (mv_st M 104 (mv_up (M 104) (4 * c + 3) (v.tmod 10))) 104 (mv_up (mv_up (M 104) (4 * c + 3) (v.tmod 10)) (4 * c + 2) (mv_w ((v.tdiv 10).tmod 10))))) rfl ?_
  refine mv_tt' (by first | omega | decide) ?_
  refine mv_go' 3 (pc' := if 10 = 0 then mv_bad else 29) (ls' := [mv_R 100, mv_I (c : Int), mv_I v, mv_I (v.tdiv 10), mv_I 2]) (st' := [mv_I (mv_w ((v.tdiv 10).tdiv 10))]) (M1 := (mv_st (mv_st M 104 (mv_up (M 104) (4 * c + 3) (v.tmod 10))) 104 (mv_up (mv_up (M 104) (4 * c + 3) (v.tmod 10)) (4 * c + 2) (mv_w ((v.tdiv 10).tmod 10))))) rfl ?_
  refine mv_ff' (by first | omega | decide) ?_
  refine mv_go' 3 (pc' := 5) (ls' := [mv_R 100, mv_I (c : Int), mv_I v, mv_I (mv_w ((v.tdiv 10).tdiv 10)), mv_I (mv_w (2 + (-1)))]) (st' := []) (M1 := (mv_st (mv_st M 104 (mv_up (M 104) (4 * c + 3) (v.tmod 10))) 104 (mv_up (mv_up (M 104) (4 * c + 3) (v.tmod 10)) (4 * c + 2) (mv_w ((v.tdiv 10).tmod 10))))) rfl ?_
  rw [show mv_w (2 + (-1)) = 1 from by (rw [show mv_w (2 + (-1)) = 2 + (-1) from mv_w_id (by omega) (by omega)]) <;> omega]
  rw [show mv_w ((v.tdiv 10).tdiv 10) = (v.tdiv 10).tdiv 10 from mv_w_id (by omega) (by omega)]
  rw [show mv_w ((v.tdiv 10).tmod 10) = (v.tdiv 10).tmod 10 from mv_w_id (by omega) (by omega)]
  refine mv_go' 2 (pc' := if 1 < 0 then 36 else 10) (ls' := [mv_R 100, mv_I (c : Int), mv_I v, mv_I ((v.tdiv 10).tdiv 10), mv_I 1]) (st' := []) (M1 := (mv_st (mv_st M 104 (mv_up (M 104) (4 * c + 3) (v.tmod 10))) 104 (mv_up (mv_up (M 104) (4 * c + 3) (v.tmod 10)) (4 * c + 2) ((v.tdiv 10).tmod 10)))) rfl ?_
  refine mv_ff' (by decide) ?_
  refine mv_go' 10 (pc' := if 10 = 0 then mv_bad else 24) (ls' := [mv_R 100, mv_I (c : Int), mv_I v, mv_I ((v.tdiv 10).tdiv 10), mv_I 1]) (st' := [mv_I (mv_w (((v.tdiv 10).tdiv 10).tmod 10)), mv_I (mv_w ((mv_w (4 * (c : Int))) + 1)), mv_R 104]) (M1 := (mv_st (mv_st M 104 (mv_up (M 104) (4 * c + 3) (v.tmod 10))) 104 (mv_up (mv_up (M 104) (4 * c + 3) (v.tmod 10)) (4 * c + 2) ((v.tdiv 10).tmod 10)))) rfl ?_
  refine mv_ff' (by first | omega | decide) ?_
  rw [show mv_w ((mv_w (4 * (c : Int))) + 1) = ((4 * c + 1 : Nat) : Int) from by (rw [show mv_w (4 * (c : Int)) = 4 * (c : Int) from mv_w_id (by omega) (by omega), show mv_w ((4 * (c : Int)) + 1) = (4 * (c : Int)) + 1 from mv_w_id (by omega) (by omega)]) <;> omega]
  refine mv_go' 1 (pc' := if 0 ≤ ((4 * c + 1 : Nat) : Int) ∧ ((4 * c + 1 : Nat) : Int) < 24 then 25 else mv_bad) (ls' := [mv_R 100, mv_I (c : Int), mv_I v, mv_I ((v.tdiv 10).tdiv 10), mv_I 1]) (st' := []) (M1 := (mv_st (mv_st (mv_st M 104 (mv_up (M 104) (4 * c + 3) (v.tmod 10))) 104 (mv_up (mv_up (M 104) (4 * c + 3) (v.tmod 10)) (4 * c + 2) ((v.tdiv 10).tmod 10))) 104 (mv_up (mv_up (mv_up (M 104) (4 * c + 3) (v.tmod 10)) (4 * c + 2) ((v.tdiv 10).tmod 10)) (4 * c + 1) (mv_w (((v.tdiv 10).tdiv 10).tmod 10))))) rfl ?_
  refine mv_tt' (by first | omega | decide) ?_
  refine mv_go' 3 (pc' := if 10 = 0 then mv_bad else 29) (ls' := [mv_R 100, mv_I (c : Int), mv_I v, mv_I ((v.tdiv 10).tdiv 10), mv_I 1]) (st' := [mv_I (mv_w (((v.tdiv 10).tdiv 10).tdiv 10))]) (M1 := (mv_st (mv_st (mv_st M 104 (mv_up (M 104) (4 * c + 3) (v.tmod 10))) 104 (mv_up (mv_up (M 104) (4 * c + 3) (v.tmod 10)) (4 * c + 2) ((v.tdiv 10).tmod 10))) 104 (mv_up (mv_up (mv_up (M 104) (4 * c + 3) (v.tmod 10)) (4 * c + 2) ((v.tdiv 10).tmod 10)) (4 * c + 1) (mv_w (((v.tdiv 10).tdiv 10).tmod 10))))) rfl ?_
  refine mv_ff' (by first | omega | decide) ?_
  refine mv_go' 3 (pc' := 5) (ls' := [mv_R 100, mv_I (c : Int), mv_I v, mv_I (mv_w (((v.tdiv 10).tdiv 10).tdiv 10)), mv_I (mv_w (1 + (-1)))]) (st' := []) (M1 := (mv_st (mv_st (mv_st M 104 (mv_up (M 104) (4 * c + 3) (v.tmod 10))) 104 (mv_up (mv_up (M 104) (4 * c + 3) (v.tmod 10)) (4 * c + 2) ((v.tdiv 10).tmod 10))) 104 (mv_up (mv_up (mv_up (M 104) (4 * c + 3) (v.tmod 10)) (4 * c + 2) ((v.tdiv 10).tmod 10)) (4 * c + 1) (mv_w (((v.tdiv 10).tdiv 10).tmod 10))))) rfl ?_
  rw [show mv_w (1 + (-1)) = 0 from by (rw [show mv_w (1 + (-1)) = 1 + (-1) from mv_w_id (by omega) (by omega)]) <;> omega]
  rw [show mv_w (((v.tdiv 10).tdiv 10).tdiv 10) = ((v.tdiv 10).tdiv 10).tdiv 10 from mv_w_id (by omega) (by omega)]
  rw [show mv_w (((v.tdiv 10).tdiv 10).tmod 10) = ((v.tdiv 10).tdiv 10).tmod 10 from mv_w_id (by omega) (by omega)]
  refine mv_go' 2 (pc' := if 0 < 0 then 36 else 10) (ls' := [mv_R 100, mv_I (c : Int), mv_I v, mv_I (((v.tdiv 10).tdiv 10).tdiv 10), mv_I 0]) (st' := []) (M1 := (mv_st (mv_st (mv_st M 104 (mv_up (M 104) (4 * c + 3) (v.tmod 10))) 104 (mv_up (mv_up (M 104) (4 * c + 3) (v.tmod 10)) (4 * c + 2) ((v.tdiv 10).tmod 10))) 104 (mv_up (mv_up (mv_up (M 104) (4 * c + 3) (v.tmod 10)) (4 * c + 2) ((v.tdiv 10).tmod 10)) (4 * c + 1) (((v.tdiv 10).tdiv 10).tmod 10)))) rfl ?_
  refine mv_ff' (by decide) ?_
  refine mv_go' 10 (pc' := if 10 = 0 then mv_bad else 24) (ls' := [mv_R 100, mv_I (c : Int), mv_I v, mv_I (((v.tdiv 10).tdiv 10).tdiv 10), mv_I 0]) (st' := [mv_I (mv_w ((((v.tdiv 10).tdiv 10).tdiv 10).tmod 10)), mv_I (mv_w ((mv_w (4 * (c : Int))) + 0)), mv_R 104]) (M1 := (mv_st (mv_st (mv_st M 104 (mv_up (M 104) (4 * c + 3) (v.tmod 10))) 104 (mv_up (mv_up (M 104) (4 * c + 3) (v.tmod 10)) (4 * c + 2) ((v.tdiv 10).tmod 10))) 104 (mv_up (mv_up (mv_up (M 104) (4 * c + 3) (v.tmod 10)) (4 * c + 2) ((v.tdiv 10).tmod 10)) (4 * c + 1) (((v.tdiv 10).tdiv 10).tmod 10)))) rfl ?_
  refine mv_ff' (by first | omega | decide) ?_
  rw [show mv_w ((mv_w (4 * (c : Int))) + 0) = ((4 * c : Nat) : Int) from by (rw [show mv_w (4 * (c : Int)) = 4 * (c : Int) from mv_w_id (by omega) (by omega), show mv_w ((4 * (c : Int)) + 0) = (4 * (c : Int)) + 0 from mv_w_id (by omega) (by omega)]) <;> omega]
  refine mv_go' 1 (pc' := if 0 ≤ ((4 * c : Nat) : Int) ∧ ((4 * c : Nat) : Int) < 24 then 25 else mv_bad) (ls' := [mv_R 100, mv_I (c : Int), mv_I v, mv_I (((v.tdiv 10).tdiv 10).tdiv 10), mv_I 0]) (st' := []) (M1 := (mv_st (mv_st (mv_st (mv_st M 104 (mv_up (M 104) (4 * c + 3) (v.tmod 10))) 104 (mv_up (mv_up (M 104) (4 * c + 3) (v.tmod 10)) (4 * c + 2) ((v.tdiv 10).tmod 10))) 104 (mv_up (mv_up (mv_up (M 104) (4 * c + 3) (v.tmod 10)) (4 * c + 2) ((v.tdiv 10).tmod 10)) (4 * c + 1) (((v.tdiv 10).tdiv 10).tmod 10))) 104 (mv_up (mv_up (mv_up (mv_up (M 104) (4 * c + 3) (v.tmod 10)) (4 * c + 2) ((v.tdiv 10).tmod 10)) (4 * c + 1) (((v.tdiv 10).tdiv 10).tmod 10)) (4 * c) (mv_w ((((v.tdiv 10).tdiv 10).tdiv 10).tmod 10))))) rfl ?_
  refine mv_tt' (by first | omega | decide) ?_
  refine mv_go' 3 (pc' := if 10 = 0 then mv_bad else 29) (ls' := [mv_R 100, mv_I (c : Int), mv_I v, mv_I (((v.tdiv 10).tdiv 10).tdiv 10), mv_I 0]) (st' := [mv_I (mv_w ((((v.tdiv 10).tdiv 10).tdiv 10).tdiv 10))]) (M1 := (mv_st (mv_st (mv_st (mv_st M 104 (mv_up (M 104) (4 * c + 3) (v.tmod 10))) 104 (mv_up (mv_up (M 104) (4 * c + 3) (v.tmod 10)) (4 * c + 2) ((v.tdiv 10).tmod 10))) 104 (mv_up (mv_up (mv_up (M 104) (4 * c + 3) (v.tmod 10)) (4 * c + 2) ((v.tdiv 10).tmod 10)) (4 * c + 1) (((v.tdiv 10).tdiv 10).tmod 10))) 104 (mv_up (mv_up (mv_up (mv_up (M 104) (4 * c + 3) (v.tmod 10)) (4 * c + 2) ((v.tdiv 10).tmod 10)) (4 * c + 1) (((v.tdiv 10).tdiv 10).tmod 10)) (4 * c) (mv_w ((((v.tdiv 10).tdiv 10).tdiv 10).tmod 10))))) rfl ?_
  refine mv_ff' (by first | omega | decide) ?_
  refine mv_go' 3 (pc' := 5) (ls' := [mv_R 100, mv_I (c : Int), mv_I v, mv_I (mv_w ((((v.tdiv 10).tdiv 10).tdiv 10).tdiv 10)), mv_I (mv_w (0 + (-1)))]) (st' := []) (M1 := (mv_st (mv_st (mv_st (mv_st M 104 (mv_up (M 104) (4 * c + 3) (v.tmod 10))) 104 (mv_up (mv_up (M 104) (4 * c + 3) (v.tmod 10)) (4 * c + 2) ((v.tdiv 10).tmod 10))) 104 (mv_up (mv_up (mv_up (M 104) (4 * c + 3) (v.tmod 10)) (4 * c + 2) ((v.tdiv 10).tmod 10)) (4 * c + 1) (((v.tdiv 10).tdiv 10).tmod 10))) 104 (mv_up (mv_up (mv_up (mv_up (M 104) (4 * c + 3) (v.tmod 10)) (4 * c + 2) ((v.tdiv 10).tmod 10)) (4 * c + 1) (((v.tdiv 10).tdiv 10).tmod 10)) (4 * c) (mv_w ((((v.tdiv 10).tdiv 10).tdiv 10).tmod 10))))) rfl ?_
  rw [show mv_w ((((v.tdiv 10).tdiv 10).tdiv 10).tdiv 10) = (((v.tdiv 10).tdiv 10).tdiv 10).tdiv 10 from mv_w_id (by omega) (by omega)]
  rw [show mv_w (0 + (-1)) = 0 + (-1) from mv_w_id (by omega) (by omega)]
  rw [show mv_w ((((v.tdiv 10).tdiv 10).tdiv 10).tmod 10) = (((v.tdiv 10).tdiv 10).tdiv 10).tmod 10 from mv_w_id (by omega) (by omega)]
  refine mv_go' 2 (pc' := if (0 + (-1)) < 0 then 36 else 10) (ls' := [mv_R 100, mv_I (c : Int), mv_I v, mv_I ((((v.tdiv 10).tdiv 10).tdiv 10).tdiv 10), mv_I (0 + (-1))]) (st' := []) (M1 := (mv_st (mv_st (mv_st (mv_st M 104 (mv_up (M 104) (4 * c + 3) (v.tmod 10))) 104 (mv_up (mv_up (M 104) (4 * c + 3) (v.tmod 10)) (4 * c + 2) ((v.tdiv 10).tmod 10))) 104 (mv_up (mv_up (mv_up (M 104) (4 * c + 3) (v.tmod 10)) (4 * c + 2) ((v.tdiv 10).tmod 10)) (4 * c + 1) (((v.tdiv 10).tdiv 10).tmod 10))) 104 (mv_up (mv_up (mv_up (mv_up (M 104) (4 * c + 3) (v.tmod 10)) (4 * c + 2) ((v.tdiv 10).tmod 10)) (4 * c + 1) (((v.tdiv 10).tdiv 10).tmod 10)) (4 * c) ((((v.tdiv 10).tdiv 10).tdiv 10).tmod 10)))) rfl ?_
  refine mv_tt' (by decide) ?_
  exact mv_ret (fun n => rfl) (⟨by repeat (first | exact mv_ag.rf | refine mv_ag.st ?_ (by decide)), rfl⟩)
theorem sp_mpd105 {M : mv_M} {v : Int} {c : Nat} (hv0 : 0 ≤ v) (hv : v ≤ 9999) (hc : c < 6) : mv_Ru 0 120 0 [mv_R 100, mv_I (c : Int), mv_I v, mv_U, mv_U] [] M mv_U (fun M1 => mv_ag [105] M M1 ∧ M1 105 = sp_pd (M 105) c v) := by
  have t1 := sp_td hv0
  have t2 := sp_td t1.1
  have t3 := sp_td t2.1
  have t4 := sp_td t3.1
  have m0 := sp_tm hv0
  have m1 := sp_tm t1.1
  have m2 := sp_tm t2.1
  have m3 := sp_tm t3.1
  refine mv_go' 4 (pc' := 5) (ls' := [mv_R 100, mv_I (c : Int), mv_I v, mv_I v, mv_I 3]) (st' := []) (M1 := M) rfl ?_
  refine mv_go' 2 (pc' := if 3 < 0 then 36 else 10) (ls' := [mv_R 100, mv_I (c : Int), mv_I v, mv_I v, mv_I 3]) (st' := []) (M1 := M) rfl ?_
  refine mv_ff' (by decide) ?_
  refine mv_go' 10 (pc' := if 10 = 0 then mv_bad else 24) (ls' := [mv_R 100, mv_I (c : Int), mv_I v, mv_I v, mv_I 3]) (st' := [mv_I (mv_w (v.tmod 10)), mv_I (mv_w ((mv_w (4 * (c : Int))) + 3)), mv_R 105]) (M1 := M) rfl ?_
  refine mv_ff' (by first | omega | decide) ?_
  rw [show mv_w ((mv_w (4 * (c : Int))) + 3) = ((4 * c + 3 : Nat) : Int) from by (rw [show mv_w (4 * (c : Int)) = 4 * (c : Int) from mv_w_id (by omega) (by omega), show mv_w ((4 * (c : Int)) + 3) = (4 * (c : Int)) + 3 from mv_w_id (by omega) (by omega)]) <;> omega]
  refine mv_go' 1 (pc' := if 0 ≤ ((4 * c + 3 : Nat) : Int) ∧ ((4 * c + 3 : Nat) : Int) < 24 then 25 else mv_bad) (ls' := [mv_R 100, mv_I (c : Int), mv_I v, mv_I v, mv_I 3]) (st' := []) (M1 := (mv_st M 105 (mv_up (M 105) (4 * c + 3) (mv_w (v.tmod 10))))) rfl ?_
  refine mv_tt' (by first | omega | decide) ?_
  refine mv_go' 3 (pc' := if 10 = 0 then mv_bad else 29) (ls' := [mv_R 100, mv_I (c : Int), mv_I v, mv_I v, mv_I 3]) (st' := [mv_I (mv_w (v.tdiv 10))]) (M1 := (mv_st M 105 (mv_up (M 105) (4 * c + 3) (mv_w (v.tmod 10))))) rfl ?_
  refine mv_ff' (by first | omega | decide) ?_
  refine mv_go' 3 (pc' := 5) (ls' := [mv_R 100, mv_I (c : Int), mv_I v, mv_I (mv_w (v.tdiv 10)), mv_I (mv_w (3 + (-1)))]) (st' := []) (M1 := (mv_st M 105 (mv_up (M 105) (4 * c + 3) (mv_w (v.tmod 10))))) rfl ?_
  rw [show mv_w (3 + (-1)) = 2 from by (rw [show mv_w (3 + (-1)) = 3 + (-1) from mv_w_id (by omega) (by omega)]) <;> omega]
  rw [show mv_w (v.tdiv 10) = v.tdiv 10 from mv_w_id (by omega) (by omega)]
  rw [show mv_w (v.tmod 10) = v.tmod 10 from mv_w_id (by omega) (by omega)]
  refine mv_go' 2 (pc' := if 2 < 0 then 36 else 10) (ls' := [mv_R 100, mv_I (c : Int), mv_I v, mv_I (v.tdiv 10), mv_I 2]) (st' := []) (M1 := (mv_st M 105 (mv_up (M 105) (4 * c + 3) (v.tmod 10)))) rfl ?_
  refine mv_ff' (by decide) ?_
  refine mv_go' 10 (pc' := if 10 = 0 then mv_bad else 24) (ls' := [mv_R 100, mv_I (c : Int), mv_I v, mv_I (v.tdiv 10), mv_I 2]) (st' := [mv_I (mv_w ((v.tdiv 10).tmod 10)), mv_I (mv_w ((mv_w (4 * (c : Int))) + 2)), mv_R 105]) (M1 := (mv_st M 105 (mv_up (M 105) (4 * c + 3) (v.tmod 10)))) rfl ?_
  refine mv_ff' (by first | omega | decide) ?_
  rw [show mv_w ((mv_w (4 * (c : Int))) + 2) = ((4 * c + 2 : Nat) : Int) from by (rw [show mv_w (4 * (c : Int)) = 4 * (c : Int) from mv_w_id (by omega) (by omega), show mv_w ((4 * (c : Int)) + 2) = (4 * (c : Int)) + 2 from mv_w_id (by omega) (by omega)]) <;> omega]
  refine mv_go' 1 (pc' := if 0 ≤ ((4 * c + 2 : Nat) : Int) ∧ ((4 * c + 2 : Nat) : Int) < 24 then 25 else mv_bad) (ls' := [mv_R 100, mv_I (c : Int), mv_I v, mv_I (v.tdiv 10), mv_I 2]) (st' := []) (M1 := (mv_st (mv_st M 105 (mv_up (M 105) (4 * c + 3) (v.tmod 10))) 105 (mv_up (mv_up (M 105) (4 * c + 3) (v.tmod 10)) (4 * c + 2) (mv_w ((v.tdiv 10).tmod 10))))) rfl ?_
  refine mv_tt' (by first | omega | decide) ?_
  refine mv_go' 3 (pc' := if 10 = 0 then mv_bad else 29) (ls' := [mv_R 100, mv_I (c : Int), mv_I v, mv_I (v.tdiv 10), mv_I 2]) (st' := [mv_I (mv_w ((v.tdiv 10).tdiv 10))]) (M1 := (mv_st (mv_st M 105 (mv_up (M 105) (4 * c + 3) (v.tmod 10))) 105 (mv_up (mv_up (M 105) (4 * c + 3) (v.tmod 10)) (4 * c + 2) (mv_w ((v.tdiv 10).tmod 10))))) rfl ?_
  refine mv_ff' (by first | omega | decide) ?_
  refine mv_go' 3 (pc' := 5) (ls' := [mv_R 100, mv_I (c : Int), mv_I v, mv_I (mv_w ((v.tdiv 10).tdiv 10)), mv_I (mv_w (2 + (-1)))]) (st' := []) (M1 := (mv_st (mv_st M 105 (mv_up (M 105) (4 * c + 3) (v.tmod 10))) 105 (mv_up (mv_up (M 105) (4 * c + 3) (v.tmod 10)) (4 * c + 2) (mv_w ((v.tdiv 10).tmod 10))))) rfl ?_
  rw [show mv_w (2 + (-1)) = 1 from by (rw [show mv_w (2 + (-1)) = 2 + (-1) from mv_w_id (by omega) (by omega)]) <;> omega]
  rw [show mv_w ((v.tdiv 10).tdiv 10) = (v.tdiv 10).tdiv 10 from mv_w_id (by omega) (by omega)]
  rw [show mv_w ((v.tdiv 10).tmod 10) = (v.tdiv 10).tmod 10 from mv_w_id (by omega) (by omega)]
  refine mv_go' 2 (pc' := if 1 < 0 then 36 else 10) (ls' := [mv_R 100, mv_I (c : Int), mv_I v, mv_I ((v.tdiv 10).tdiv 10), mv_I 1]) (st' := []) (M1 := (mv_st (mv_st M 105 (mv_up (M 105) (4 * c + 3) (v.tmod 10))) 105 (mv_up (mv_up (M 105) (4 * c + 3) (v.tmod 10)) (4 * c + 2) ((v.tdiv 10).tmod 10)))) rfl ?_
  refine mv_ff' (by decide) ?_
  refine mv_go' 10 (pc' := if 10 = 0 then mv_bad else 24) (ls' := [mv_R 100, mv_I (c : Int), mv_I v, mv_I ((v.tdiv 10).tdiv 10), mv_I 1]) (st' := [mv_I (mv_w (((v.tdiv 10).tdiv 10).tmod 10)), mv_I (mv_w ((mv_w (4 * (c : Int))) + 1)), mv_R 105]) (M1 := (mv_st (mv_st M 105 (mv_up (M 105) (4 * c + 3) (v.tmod 10))) 105 (mv_up (mv_up (M 105) (4 * c + 3) (v.tmod 10)) (4 * c + 2) ((v.tdiv 10).tmod 10)))) rfl ?_
  refine mv_ff' (by first | omega | decide) ?_
  rw [show mv_w ((mv_w (4 * (c : Int))) + 1) = ((4 * c + 1 : Nat) : Int) from by (rw [show mv_w (4 * (c : Int)) = 4 * (c : Int) from mv_w_id (by omega) (by omega), show mv_w ((4 * (c : Int)) + 1) = (4 * (c : Int)) + 1 from mv_w_id (by omega) (by omega)]) <;> omega]
  refine mv_go' 1 (pc' := if 0 ≤ ((4 * c + 1 : Nat) : Int) ∧ ((4 * c + 1 : Nat) : Int) < 24 then 25 else mv_bad) (ls' := [mv_R 100, mv_I (c : Int), mv_I v, mv_I ((v.tdiv 10).tdiv 10), mv_I 1]) (st' := []) (M1 := (mv_st (mv_st (mv_st M 105 (mv_up (M 105) (4 * c + 3) (v.tmod 10))) 105 (mv_up (mv_up (M 105) (4 * c + 3) (v.tmod 10)) (4 * c + 2) ((v.tdiv 10).tmod 10))) 105 (mv_up (mv_up (mv_up (M 105) (4 * c + 3) (v.tmod 10)) (4 * c + 2) ((v.tdiv 10).tmod 10)) (4 * c + 1) (mv_w (((v.tdiv 10).tdiv 10).tmod 10))))) rfl ?_
  refine mv_tt' (by first | omega | decide) ?_
  refine mv_go' 3 (pc' := if 10 = 0 then mv_bad else 29) (ls' := [mv_R 100, mv_I (c : Int), mv_I v, mv_I ((v.tdiv 10).tdiv 10), mv_I 1]) (st' := [mv_I (mv_w (((v.tdiv 10).tdiv 10).tdiv 10))]) (M1 := (mv_st (mv_st (mv_st M 105 (mv_up (M 105) (4 * c + 3) (v.tmod 10))) 105 (mv_up (mv_up (M 105) (4 * c + 3) (v.tmod 10)) (4 * c + 2) ((v.tdiv 10).tmod 10))) 105 (mv_up (mv_up (mv_up (M 105) (4 * c + 3) (v.tmod 10)) (4 * c + 2) ((v.tdiv 10).tmod 10)) (4 * c + 1) (mv_w (((v.tdiv 10).tdiv 10).tmod 10))))) rfl ?_
  refine mv_ff' (by first | omega | decide) ?_
  refine mv_go' 3 (pc' := 5) (ls' := [mv_R 100, mv_I (c : Int), mv_I v, mv_I (mv_w (((v.tdiv 10).tdiv 10).tdiv 10)), mv_I (mv_w (1 + (-1)))]) (st' := []) (M1 := (mv_st (mv_st (mv_st M 105 (mv_up (M 105) (4 * c + 3) (v.tmod 10))) 105 (mv_up (mv_up (M 105) (4 * c + 3) (v.tmod 10)) (4 * c + 2) ((v.tdiv 10).tmod 10))) 105 (mv_up (mv_up (mv_up (M 105) (4 * c + 3) (v.tmod 10)) (4 * c + 2) ((v.tdiv 10).tmod 10)) (4 * c + 1) (mv_w (((v.tdiv 10).tdiv 10).tmod 10))))) rfl ?_
  rw [show mv_w (1 + (-1)) = 0 from by (rw [show mv_w (1 + (-1)) = 1 + (-1) from mv_w_id (by omega) (by omega)]) <;> omega]
  rw [show mv_w (((v.tdiv 10).tdiv 10).tdiv 10) = ((v.tdiv 10).tdiv 10).tdiv 10 from mv_w_id (by omega) (by omega)]
  rw [show mv_w (((v.tdiv 10).tdiv 10).tmod 10) = ((v.tdiv 10).tdiv 10).tmod 10 from mv_w_id (by omega) (by omega)]
  refine mv_go' 2 (pc' := if 0 < 0 then 36 else 10) (ls' := [mv_R 100, mv_I (c : Int), mv_I v, mv_I (((v.tdiv 10).tdiv 10).tdiv 10), mv_I 0]) (st' := []) (M1 := (mv_st (mv_st (mv_st M 105 (mv_up (M 105) (4 * c + 3) (v.tmod 10))) 105 (mv_up (mv_up (M 105) (4 * c + 3) (v.tmod 10)) (4 * c + 2) ((v.tdiv 10).tmod 10))) 105 (mv_up (mv_up (mv_up (M 105) (4 * c + 3) (v.tmod 10)) (4 * c + 2) ((v.tdiv 10).tmod 10)) (4 * c + 1) (((v.tdiv 10).tdiv 10).tmod 10)))) rfl ?_
  refine mv_ff' (by decide) ?_
  refine mv_go' 10 (pc' := if 10 = 0 then mv_bad else 24) (ls' := [mv_R 100, mv_I (c : Int), mv_I v, mv_I (((v.tdiv 10).tdiv 10).tdiv 10), mv_I 0]) (st' := [mv_I (mv_w ((((v.tdiv 10).tdiv 10).tdiv 10).tmod 10)), mv_I (mv_w ((mv_w (4 * (c : Int))) + 0)), mv_R 105]) (M1 := (mv_st (mv_st (mv_st M 105 (mv_up (M 105) (4 * c + 3) (v.tmod 10))) 105 (mv_up (mv_up (M 105) (4 * c + 3) (v.tmod 10)) (4 * c + 2) ((v.tdiv 10).tmod 10))) 105 (mv_up (mv_up (mv_up (M 105) (4 * c + 3) (v.tmod 10)) (4 * c + 2) ((v.tdiv 10).tmod 10)) (4 * c + 1) (((v.tdiv 10).tdiv 10).tmod 10)))) rfl ?_
  refine mv_ff' (by first | omega | decide) ?_
  rw [show mv_w ((mv_w (4 * (c : Int))) + 0) = ((4 * c : Nat) : Int) from by (rw [show mv_w (4 * (c : Int)) = 4 * (c : Int) from mv_w_id (by omega) (by omega), show mv_w ((4 * (c : Int)) + 0) = (4 * (c : Int)) + 0 from mv_w_id (by omega) (by omega)]) <;> omega]
  refine mv_go' 1 (pc' := if 0 ≤ ((4 * c : Nat) : Int) ∧ ((4 * c : Nat) : Int) < 24 then 25 else mv_bad) (ls' := [mv_R 100, mv_I (c : Int), mv_I v, mv_I (((v.tdiv 10).tdiv 10).tdiv 10), mv_I 0]) (st' := []) (M1 := (mv_st (mv_st (mv_st (mv_st M 105 (mv_up (M 105) (4 * c + 3) (v.tmod 10))) 105 (mv_up (mv_up (M 105) (4 * c + 3) (v.tmod 10)) (4 * c + 2) ((v.tdiv 10).tmod 10))) 105 (mv_up (mv_up (mv_up (M 105) (4 * c + 3) (v.tmod 10)) (4 * c + 2) ((v.tdiv 10).tmod 10)) (4 * c + 1) (((v.tdiv 10).tdiv 10).tmod 10))) 105 (mv_up (mv_up (mv_up (mv_up (M 105) (4 * c + 3) (v.tmod 10)) (4 * c + 2) ((v.tdiv 10).tmod 10)) (4 * c + 1) (((v.tdiv 10).tdiv 10).tmod 10)) (4 * c) (mv_w ((((v.tdiv 10).tdiv 10).tdiv 10).tmod 10))))) rfl ?_
  refine mv_tt' (by first | omega | decide) ?_
  refine mv_go' 3 (pc' := if 10 = 0 then mv_bad else 29) (ls' := [mv_R 100, mv_I (c : Int), mv_I v, mv_I (((v.tdiv 10).tdiv 10).tdiv 10), mv_I 0]) (st' := [mv_I (mv_w ((((v.tdiv 10).tdiv 10).tdiv 10).tdiv 10))]) (M1 := (mv_st (mv_st (mv_st (mv_st M 105 (mv_up (M 105) (4 * c + 3) (v.tmod 10))) 105 (mv_up (mv_up (M 105) (4 * c + 3) (v.tmod 10)) (4 * c + 2) ((v.tdiv 10).tmod 10))) 105 (mv_up (mv_up (mv_up (M 105) (4 * c + 3) (v.tmod 10)) (4 * c + 2) ((v.tdiv 10).tmod 10)) (4 * c + 1) (((v.tdiv 10).tdiv 10).tmod 10))) 105 (mv_up (mv_up (mv_up (mv_up (M 105) (4 * c + 3) (v.tmod 10)) (4 * c + 2) ((v.tdiv 10).tmod 10)) (4 * c + 1) (((v.tdiv 10).tdiv 10).tmod 10)) (4 * c) (mv_w ((((v.tdiv 10).tdiv 10).tdiv 10).tmod 10))))) rfl ?_
  refine mv_ff' (by first | omega | decide) ?_
  refine mv_go' 3 (pc' := 5) (ls' := [mv_R 100, mv_I (c : Int), mv_I v, mv_I (mv_w ((((v.tdiv 10).tdiv 10).tdiv 10).tdiv 10)), mv_I (mv_w (0 + (-1)))]) (st' := []) (M1 := (mv_st (mv_st (mv_st (mv_st M 105 (mv_up (M 105) (4 * c + 3) (v.tmod 10))) 105 (mv_up (mv_up (M 105) (4 * c + 3) (v.tmod 10)) (4 * c + 2) ((v.tdiv 10).tmod 10))) 105 (mv_up (mv_up (mv_up (M 105) (4 * c + 3) (v.tmod 10)) (4 * c + 2) ((v.tdiv 10).tmod 10)) (4 * c + 1) (((v.tdiv 10).tdiv 10).tmod 10))) 105 (mv_up (mv_up (mv_up (mv_up (M 105) (4 * c + 3) (v.tmod 10)) (4 * c + 2) ((v.tdiv 10).tmod 10)) (4 * c + 1) (((v.tdiv 10).tdiv 10).tmod 10)) (4 * c) (mv_w ((((v.tdiv 10).tdiv 10).tdiv 10).tmod 10))))) rfl ?_
  rw [show mv_w ((((v.tdiv 10).tdiv 10).tdiv 10).tdiv 10) = (((v.tdiv 10).tdiv 10).tdiv 10).tdiv 10 from mv_w_id (by omega) (by omega)]
  rw [show mv_w (0 + (-1)) = 0 + (-1) from mv_w_id (by omega) (by omega)]
  rw [show mv_w ((((v.tdiv 10).tdiv 10).tdiv 10).tmod 10) = (((v.tdiv 10).tdiv 10).tdiv 10).tmod 10 from mv_w_id (by omega) (by omega)]
  refine mv_go' 2 (pc' := if (0 + (-1)) < 0 then 36 else 10) (ls' := [mv_R 100, mv_I (c : Int), mv_I v, mv_I ((((v.tdiv 10).tdiv 10).tdiv 10).tdiv 10), mv_I (0 + (-1))]) (st' := []) (M1 := (mv_st (mv_st (mv_st (mv_st M 105 (mv_up (M 105) (4 * c + 3) (v.tmod 10))) 105 (mv_up (mv_up (M 105) (4 * c + 3) (v.tmod 10)) (4 * c + 2) ((v.tdiv 10).tmod 10))) 105 (mv_up (mv_up (mv_up (M 105) (4 * c + 3) (v.tmod 10)) (4 * c + 2) ((v.tdiv 10).tmod 10)) (4 * c + 1) (((v.tdiv 10).tdiv 10).tmod 10))) 105 (mv_up (mv_up (mv_up (mv_up (M 105) (4 * c + 3) (v.tmod 10)) (4 * c + 2) ((v.tdiv 10).tmod 10)) (4 * c + 1) (((v.tdiv 10).tdiv 10).tmod 10)) (4 * c) ((((v.tdiv 10).tdiv 10).tdiv 10).tmod 10)))) rfl ?_
  refine mv_tt' (by decide) ?_
  exact mv_ret (fun n => rfl) (⟨by repeat (first | exact mv_ag.rf | refine mv_ag.st ?_ (by decide)), rfl⟩)
