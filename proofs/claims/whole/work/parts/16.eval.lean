/-! a text's part as steps, and what it says -/
def sp_un (s a : Int) : Int := if s = 20008 then mv_w (-a) else if a = 0 then 1 else 0
def sp_bi (s a b : Int) : Int :=
  if s = 20000 then (if a ≠ 0 ∨ b ≠ 0 then 1 else 0) else if s = 20001 then (if a ≠ 0 ∧ b ≠ 0 then 1 else 0) else if s = 20002 then (if a < b then 1 else 0) else if s = 20003 then (if a = b then 1 else 0)
  else if s = 20004 then mv_w (a + b) else if s = 20005 then mv_w (a - b) else mv_w (a * b)
def sp_run (nm : Nat → Int) : List Int → List Int → List Int
  | [], st => st
  | s :: r, st =>
    if s < 10000 then sp_run nm r (s :: st) else if s < 20000 then sp_run nm r (nm (s - 10000).toNat :: st)
    else if 20007 ≤ s then (match st with | a :: q => sp_run nm r (sp_un s a :: q) | [] => sp_run nm r [])
    else (match st with | b :: a :: q => sp_run nm r (sp_bi s a b :: q) | q => sp_run nm r q)
def sp_wf : List Int → Nat → Prop
  | [], h => h = 1
  | s :: r, h => (0 ≤ s ∧ s ≤ 20008) ∧ (if s < 20000 then s < 10006 ∧ h < 64 ∧ sp_wf r (h + 1) else if 20007 ≤ s then 1 ≤ h ∧ sp_wf r h else 2 ≤ h ∧ sp_wf r (h - 1))
def sp_top (l : List Int) : Int := l.headD 0
/-- a row holds these from a place on -/
def sp_at (f : Nat → Int) : Nat → List Int → Prop
  | _, [] => True
  | i, x :: r => f i = x ∧ sp_at f (i + 1) r
/-- a stack in a row, the top first -/
def sp_stk (g : Nat → Int) : List Int → Prop
  | [] => True
  | a :: q => g q.length = a ∧ sp_stk g q
theorem sp_stk_up {g : Nat → Int} {k : Nat} {z : Int} : ∀ {q : List Int}, sp_stk g q → q.length ≤ k → sp_stk (mv_up g k z) q
  | [], _, _ => trivial
  | a :: q, h, hk => ⟨(mv_up_n g z (by simp only [List.length_cons] at hk; omega)).trans h.1, sp_stk_up h.2 (by simp only [List.length_cons] at hk; omega)⟩
theorem sp_stk_ps {g : Nat → Int} {z : Int} {q : List Int} {k : Nat} (h : sp_stk g q) (hk : q.length = k) : sp_stk (mv_up g k z) (z :: q) := ⟨by rw [hk]; exact mv_up_s g k z, sp_stk_up h (by omega)⟩
theorem sp_run_nm {nm nm2 : Nat → Int} (hn : ∀ i, i < 6 → nm i = nm2 i) : ∀ (code : List Int) (h : Nat) (st : List Int), sp_wf code h → st.length = h → sp_run nm code st = sp_run nm2 code st
  | [], _, _, _, _ => rfl
  | s :: r, h, st, hw, hl => by
    obtain ⟨⟨h0, h1⟩, hw⟩ := hw
    by_cases c1 : s < 20000
    · rw [if_pos c1] at hw
      by_cases c0 : s < 10000
      · simp only [sp_run, if_pos c0]
        exact sp_run_nm hn r (h + 1) _ hw.2.2 (by simp only [List.length_cons]; omega)
      · simp only [sp_run, if_neg c0, if_pos c1]
        rw [hn _ (by omega)]
        exact sp_run_nm hn r (h + 1) _ hw.2.2 (by simp only [List.length_cons]; omega)
    · rw [if_neg c1] at hw
      have c0 : ¬ s < 10000 := by omega
      by_cases c2 : 20007 ≤ s
      · rw [if_pos c2] at hw
        match st, hl with
        | [], hl => simp only [List.length_nil] at hl; omega
        | a :: q, hl =>
          simp only [sp_run, if_neg c0, if_neg c1, if_pos c2]
          exact sp_run_nm hn r h _ hw.2 (by simpa using hl)
      · rw [if_neg c2] at hw
        match st, hl with
        | [], hl => simp only [List.length_nil] at hl; omega
        | [a], hl => simp only [List.length_cons, List.length_nil] at hl; omega
        | b :: a :: q, hl =>
          simp only [sp_run, if_neg c0, if_neg c1, if_neg c2]
          exact sp_run_nm hn r (h - 1) _ hw.2 (by simp only [List.length_cons] at hl ⊢; omega)
def sp_nm (V : mv_M) (u : Nat) (k : Nat) (need : Int) : Nat → Int
  | 0 => V 3 (4 * u + k)
  | 1 => need
  | 2 => k
  | 3 => V 0 10
  | 4 => sp_hired V u
  | 5 => V 5 u
  | _ => 0
def sp_cl (z lo hi : Int) : Int := if z < lo then lo else if hi < z then hi else z
/-- the laws: of each its three parts -/
def sp_says (V : mv_M) (P : Nat → Nat → List Int) (p u k : Nat) (need : Int) : Int :=
  sp_cl (sp_top (sp_run (sp_nm V u k need) (P (V 0 11).toNat p) [])) (if p = 2 then 0 else -99) (if p = 2 then 9 else 99)
theorem sp_cl_b {z lo hi : Int} (h : lo ≤ hi) : lo ≤ sp_cl z lo hi ∧ sp_cl z lo hi ≤ hi := by
  unfold sp_cl
  split
  · omega
  · split <;> omega
theorem sp_says_b (V : mv_M) (P : Nat → Nat → List Int) (p u k : Nat) (need : Int) : -99 ≤ sp_says V P p u k need ∧ sp_says V P p u k need ≤ 99 := by
  unfold sp_says
  by_cases h : p = 2
  · rw [if_pos h, if_pos h]
    have := @sp_cl_b (sp_top (sp_run (sp_nm V u k need) (P (V 0 11).toNat p) [])) 0 9 (by omega)
    omega
  · rw [if_neg h, if_neg h]
    exact sp_cl_b (by omega)
theorem sp_says_b2 (V : mv_M) (P : Nat → Nat → List Int) (u k : Nat) (need : Int) : 0 ≤ sp_says V P 2 u k need ∧ sp_says V P 2 u k need ≤ 9 := sp_cl_b (by simp)
/-- a law's cells hold these parts -/
def sp_ct (L : Nat) (M : mv_M) (P : Nat → List Int) : Prop :=
  (M (L + 2) 0 = (P 0).length ∧ M (L + 2) 1 = ((P 0).length + (P 1).length : Nat) ∧ M (L + 2) 2 = ((P 0).length + (P 1).length + (P 2).length : Nat)) ∧
  (sp_at (M (L + 1)) 0 (P 0) ∧ sp_at (M (L + 1)) (P 0).length (P 1) ∧ sp_at (M (L + 1)) ((P 0).length + (P 1).length) (P 2)) ∧
  (sp_wf (P 0) 0 ∧ sp_wf (P 1) 0 ∧ sp_wf (P 2) 0) ∧ (P 0).length + (P 1).length + (P 2).length ≤ 160
def sp_en (s : Int) : Int := if s < 10000 then s + 100000 else if s < 20000 then s - 10000 else if s = 20000 then 11 else if s = 20001 then 12 else if s = 20002 then 14 else if s = 20003 then 15 else if s = 20004 then 16 else if s = 20005 then 17 else if s = 20006 then 18 else if s = 20007 then 13 else 19
/-- the model's rows for text t hold these parts -/
def sp_mt (t : Nat) (M : mv_M) (P : Nat → List Int) : Prop :=
  (M 111 (4 * t) = 0 ∧ M 111 (4 * t + 1) = (P 0).length ∧ M 111 (4 * t + 2) = ((P 0).length + (P 1).length : Nat) ∧ M 111 (4 * t + 3) = ((P 0).length + (P 1).length + (P 2).length : Nat)) ∧
  (sp_at (M 110) (200 * t) ((P 0).map sp_en) ∧ sp_at (M 110) (200 * t + (P 0).length) ((P 1).map sp_en) ∧ sp_at (M 110) (200 * t + ((P 0).length + (P 1).length)) ((P 2).map sp_en)) ∧
  (sp_wf (P 0) 0 ∧ sp_wf (P 1) 0 ∧ sp_wf (P 2) 0) ∧ (P 0).length + (P 1).length + (P 2).length ≤ 160
