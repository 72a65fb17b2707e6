/-! A READER OF TEXTS, pure. b: the tape's bytes as the desk has them (0 to 255); n: how many. A token's kinds: 0 the end, 1 a word, 2 figures, 3 a sign; 4 a blank. -/
def p_so (x : Int) : Int := if x = 32 ∨ x = 10 then 4 else if 97 ≤ x ∧ x ≤ 122 then 1 else if 48 ≤ x ∧ x ≤ 57 then 2 else 3
/-- as long as bytes of the sort s stand from p on -/
def p_run (b : Nat → Int) (n : Nat) (s : Int) : Nat → Nat → Nat
  | 0, p => p
  | f + 1, p => if p < n ∧ p_so (b p) = s then p_run b n s f (p + 1) else p
/-- the next byte that is no blank -/
def p_sk (b : Nat → Int) (n p : Nat) : Nat := p_run b n 4 (n - p) p
/-- where the token that begins at s ends -/
def p_en (b : Nat → Int) (n s : Nat) : Nat := if p_so (b s) = 3 then s + 1 else p_run b n (p_so (b s)) (n - (s + 1)) (s + 1)
/-- where token k is looked for -/
def p_tp (b : Nat → Int) (n : Nat) : Nat → Nat
  | 0 => 0
  | k + 1 => if p_sk b n (p_tp b n k) < n then p_en b n (p_sk b n (p_tp b n k)) else n
def p_st (b : Nat → Int) (n k : Nat) : Nat := p_sk b n (p_tp b n k)
def p_ki (b : Nat → Int) (n k : Nat) : Int := if p_st b n k < n then p_so (b (p_st b n k)) else 0
def p_sp (b : Nat → Int) (n k : Nat) : Nat := p_tp b n (k + 1)
section PR
variable {b b1 : Nat → Int} {n s f p k : Nat} {t : Int}
theorem p_run_ge : ∀ f p, p ≤ p_run b n t f p
  | 0, p => Nat.le_refl p
  | f + 1, p => by
    unfold p_run
    by_cases h : p < n ∧ p_so (b p) = t
    · rw [if_pos h]
      exact Nat.le_trans (Nat.le_succ p) (p_run_ge f (p + 1))
    · rw [if_neg h]
      exact Nat.le_refl p
theorem p_run_le : ∀ f p, p ≤ n → p_run b n t f p ≤ n
  | 0, p, h => h
  | f + 1, p, h => by
    unfold p_run
    by_cases h1 : p < n ∧ p_so (b p) = t
    · rw [if_pos h1]
      exact p_run_le f (p + 1) h1.1
    · rw [if_neg h1]
      exact h
/-- one on -/
theorem p_run_step (h : p < n) (hs : p_so (b p) = t) : p_run b n t (n - p) p = p_run b n t (n - (p + 1)) (p + 1) := by
  rw [show n - p = n - (p + 1) + 1 from by omega]
  show (if p < n ∧ p_so (b p) = t then p_run b n t (n - (p + 1)) (p + 1) else p) = _
  rw [if_pos ⟨h, hs⟩]
theorem p_run_stop (h : ¬ (p < n ∧ p_so (b p) = t)) : p_run b n t (n - p) p = p := by
  cases e : n - p with
  | zero => rfl
  | succ f =>
    show (if p < n ∧ p_so (b p) = t then p_run b n t f (p + 1) else p) = p
    rw [if_neg h]
theorem p_run_in : ∀ f p q, p ≤ q → q < p_run b n t f p → q < n ∧ p_so (b q) = t
  | 0, p, q, h, h1 => absurd h1 (by show ¬ q < p; omega)
  | f + 1, p, q, h, h1 => by
    have h1 : q < if p < n ∧ p_so (b p) = t then p_run b n t f (p + 1) else p := h1
    by_cases h2 : p < n ∧ p_so (b p) = t
    · rw [if_pos h2] at h1
      by_cases e : q = p
      · rw [e]
        exact h2
      · exact p_run_in f (p + 1) q (by omega) h1
    · rw [if_neg h2] at h1
      omega
theorem p_sk_le (h : p ≤ n) : p_sk b n p ≤ n := p_run_le _ _ h
theorem p_sk_ge : p ≤ p_sk b n p := p_run_ge _ _
theorem p_en_gt : s < p_en b n s := by
  unfold p_en
  by_cases h : p_so (b s) = 3
  · rw [if_pos h]
    omega
  · rw [if_neg h]
    exact p_run_ge _ _
theorem p_en_le (h : s < n) : p_en b n s ≤ n := by
  unfold p_en
  by_cases h1 : p_so (b s) = 3
  · rw [if_pos h1]
    omega
  · rw [if_neg h1]
    exact p_run_le _ _ h
theorem p_tp_le : ∀ k, p_tp b n k ≤ n
  | 0 => Nat.zero_le n
  | k + 1 => by
    unfold p_tp
    by_cases h : p_sk b n (p_tp b n k) < n
    · rw [if_pos h]
      exact p_en_le h
    · rw [if_neg h]
      exact Nat.le_refl n
theorem p_st_le : p_st b n k ≤ n := p_sk_le (p_tp_le k)
/-- a token that there is ends behind its start -/
theorem p_sp_gt (h : p_st b n k < n) : p_st b n k < p_sp b n k ∧ p_sp b n k = p_en b n (p_st b n k) := by
  unfold p_sp
  show p_st b n k < p_tp b n (k + 1) ∧ p_tp b n (k + 1) = _
  have e : p_tp b n (k + 1) = p_en b n (p_st b n k) := if_pos h
  rw [e]
  exact ⟨p_en_gt, rfl⟩
/-- tokens are at most as many as bytes -/
theorem p_tp_k : ∀ k, p_st b n k < n → k ≤ p_st b n k
  | 0, _ => Nat.zero_le _
  | k + 1, h => by
    have h0 : p_st b n k < n := by
      refine Classical.byContradiction fun h9 => ?_
      have e : p_tp b n (k + 1) = n := if_neg h9
      have h1 : p_tp b n (k + 1) ≤ p_st b n (k + 1) := p_sk_ge
      omega
    have h1 := p_tp_k k h0
    have h2 := p_sp_gt h0
    have h3 : p_tp b n (k + 1) ≤ p_st b n (k + 1) := p_sk_ge
    have h4 : p_sp b n k = p_tp b n (k + 1) := rfl
    omega
/-- behind the end there is nothing -/
theorem p_st_over (h : ¬ p_st b n k < n) : ∀ j, k ≤ j → p_st b n j = n := by
  have h0 : p_st b n k = n := Nat.le_antisymm p_st_le (by omega)
  intro j hj
  induction j with
  | zero => rw [show 0 = k from by omega]; exact h0
  | succ j ih =>
    by_cases e : k = j + 1
    · rw [← e]
      exact h0
    · have h1 := ih (by omega)
      have e1 : p_tp b n (j + 1) = n := if_neg (by show ¬ p_st b n j < n; omega)
      have h2 : p_tp b n (j + 1) ≤ p_st b n (j + 1) := p_sk_ge
      have h3 : p_st b n (j + 1) ≤ n := p_st_le
      omega
end PR
/-- the number of m figures from p on -/
def p_nu (b : Nat → Int) : Nat → Nat → Int → Int
  | 0, _, v => v
  | m + 1, p, v => p_nu b m (p + 1) (10 * v + (b p - 48))
/-- the figures' number; -1: none, or more than four figures -/
def p_nm (b : Nat → Int) (n k : Nat) : Int := if p_ki b n k = 2 ∧ p_sp b n k ≤ p_st b n k + 4 then p_nu b (p_sp b n k - p_st b n k) (p_st b n k) 0 else -1
/-- the sign; -1: none -/
def p_sv (b : Nat → Int) (n k : Nat) : Int := if p_ki b n k = 3 then b (p_st b n k) else -1
def p_mb (b : Nat → Int) : Nat → List Int → Bool
  | _, [] => true
  | s, c :: r => decide (b s = c) && p_mb b (s + 1) r
def p_eb (b : Nat → Int) (s e : Nat) (w : List Int) : Bool := decide (e = s + w.length) && p_mb b s w
def p_ix (b : Nat → Int) (s e : Nat) : List (List Int) → Int → Int
  | [], _ => -1
  | w :: r, i => if p_eb b s e w = true then i else p_ix b s e r (i + 1)
/-- the words of the texts: names 0 to 12; fail 13 keep days late gain sell near 19 join sale strike bar 23 mark trust end 26 pays if part not 30 and or -/
def p_ws : List (List Int) := [[112, 111, 111, 114], [109, 97, 105, 100, 115], [98, 111, 121, 115], [115, 105, 99, 107], [98, 114, 101, 97, 100], [99, 111, 97, 108], [114, 101, 110, 116], [108, 97, 107, 101], [105, 110, 99, 111, 109, 101], [99, 111, 105, 110], [108, 105, 118, 105, 110, 103], [100, 101, 97, 100], [109, 97, 114, 107, 115], [102, 97, 105, 108], [107, 101, 101, 112], [100, 97, 121, 115], [108, 97, 116, 101], [103, 97, 105, 110], [115, 101, 108, 108], [110, 101, 97, 114], [106, 111, 105, 110], [115, 97, 108, 101], [115, 116, 114, 105, 107, 101], [98, 97, 114], [109, 97, 114, 107], [116, 114, 117, 115, 116], [101, 110, 100], [112, 97, 121, 115], [105, 102], [112, 97, 114, 116], [110, 111, 116], [97, 110, 100], [111, 114]]
/-- which word; -1: none of these -/
def p_wi (b : Nat → Int) (n k : Nat) : Int := if p_ki b n k = 1 then p_ix b (p_st b n k) (p_sp b n k) p_ws 0 else -1
/-- how it stands: the fault (0: none), its place, the next token -/
abbrev p_S : Type := Int × Nat × Nat
def p_nx (s : p_S) : p_S := (s.1, s.2.1, s.2.2 + 1)
def p_fl (b : Nat → Int) (n : Nat) (e : Int) (s : p_S) : p_S := if s.1 = 0 then (e, p_st b n s.2.2, s.2.2) else s
/-- a sign is wanted -/
def p_sg (b : Nat → Int) (n : Nat) (c : Int) (s : p_S) : p_S := if s.1 = 0 then (if p_sv b n s.2.2 = c then p_nx s else p_fl b n 1 s) else s
/-- a word is wanted -/
def p_wd (b : Nat → Int) (n : Nat) (j : Int) (s : p_S) : p_S := if s.1 = 0 then (if p_wi b n s.2.2 = j then p_nx s else p_fl b n 1 s) else s
/-- a number is wanted -/
def p_num (b : Nat → Int) (n : Nat) (lo hi : Int) (s : p_S) : p_S := if s.1 = 0 then (if 0 ≤ p_nm b n s.2.2 then (if lo ≤ p_nm b n s.2.2 ∧ p_nm b n s.2.2 ≤ hi then p_nx s else p_fl b n 2 s) else p_fl b n 1 s) else s
def p_it {α : Type} (f : α → α) : Nat → α → α
  | 0, s => s
  | m + 1, s => p_it f m (f s)
def p_lp {α : Type} (n : Nat) (f : α → α) (s : α) : α := p_it f (n + 1) s
def p_fac (b : Nat → Int) (n : Nat) (na : Int) (op : p_S → p_S) (s : p_S) : p_S :=
  if s.1 = 0 then (if p_ki b n s.2.2 = 2 then (if 0 ≤ p_nm b n s.2.2 then p_nx s else p_fl b n 1 s) else if p_ki b n s.2.2 = 1 then (if 0 ≤ p_wi b n s.2.2 ∧ p_wi b n s.2.2 < na then p_nx s else p_fl b n 3 s) else if p_sv b n s.2.2 = 40 then op s else p_fl b n 1 s) else s
def p_pr1 (b : Nat → Int) (n : Nat) (na : Int) (op : p_S → p_S) (s : p_S) : p_S := if s.1 = 0 ∧ p_sv b n s.2.2 = 42 then p_fac b n na op (p_nx s) else s
def p_pro (b : Nat → Int) (n : Nat) (na : Int) (op : p_S → p_S) (s : p_S) : p_S := p_lp n (p_pr1 b n na op) (p_fac b n na op s)
def p_su1 (b : Nat → Int) (n : Nat) (na : Int) (op : p_S → p_S) (s : p_S) : p_S := if s.1 = 0 ∧ (p_sv b n s.2.2 = 43 ∨ p_sv b n s.2.2 = 45) then p_pro b n na op (p_nx s) else s
def p_sum (b : Nat → Int) (n : Nat) (na : Int) (op : p_S → p_S) (s : p_S) : p_S := p_lp n (p_su1 b n na op) (p_pro b n na op s)
/-- at a ( with so many brackets left -/
def p_op (b : Nat → Int) (n : Nat) (na : Int) : Nat → p_S → p_S
  | 0, s => p_fl b n 4 s
  | r + 1, s => p_sg b n 41 (p_sum b n na (p_op b n na r) (p_nx s))
def p_cmp (b : Nat → Int) (n : Nat) (na : Int) (r : Nat) (s : p_S) : p_S :=
  if (p_sum b n na (p_op b n na r) s).1 = 0 then (if p_sv b n (p_sum b n na (p_op b n na r) s).2.2 = 60 ∨ p_sv b n (p_sum b n na (p_op b n na r) s).2.2 = 62 ∨ p_sv b n (p_sum b n na (p_op b n na r) s).2.2 = 61 then p_sum b n na (p_op b n na r) (p_nx (p_sum b n na (p_op b n na r) s)) else p_fl b n 1 (p_sum b n na (p_op b n na r) s)) else p_sum b n na (p_op b n na r) s
def p_no1 (b : Nat → Int) (n : Nat) (s : p_S) : p_S := if s.1 = 0 ∧ p_wi b n s.2.2 = 30 then p_nx s else s
def p_te1 (b : Nat → Int) (n : Nat) (na : Int) (r : Nat) (oc : p_S → p_S) (s : p_S) : p_S := if s.1 = 0 then (if p_sv b n s.2.2 = 91 then oc s else p_cmp b n na r s) else s
def p_ter (b : Nat → Int) (n : Nat) (na : Int) (r : Nat) (oc : p_S → p_S) (s : p_S) : p_S := p_te1 b n na r oc (p_lp n (p_no1 b n) s)
def p_bo1 (b : Nat → Int) (n : Nat) (na : Int) (r : Nat) (oc : p_S → p_S) (s : p_S) : p_S := if s.1 = 0 ∧ p_wi b n s.2.2 = 31 then p_ter b n na r oc (p_nx s) else s
def p_bot (b : Nat → Int) (n : Nat) (na : Int) (r : Nat) (oc : p_S → p_S) (s : p_S) : p_S := p_lp n (p_bo1 b n na r oc) (p_ter b n na r oc s)
def p_co1 (b : Nat → Int) (n : Nat) (na : Int) (r : Nat) (oc : p_S → p_S) (s : p_S) : p_S := if s.1 = 0 ∧ p_wi b n s.2.2 = 32 then p_bot b n na r oc (p_nx s) else s
def p_con (b : Nat → Int) (n : Nat) (na : Int) (r : Nat) (oc : p_S → p_S) (s : p_S) : p_S := p_lp n (p_co1 b n na r oc) (p_bot b n na r oc s)
/-- at a [ with so many brackets left -/
def p_oc (b : Nat → Int) (n : Nat) (na : Int) : Nat → p_S → p_S
  | 0, s => p_fl b n 4 s
  | r + 1, s => p_sg b n 93 (p_con b n na r (p_oc b n na r) (p_nx s))
/-! rules -/
def p_lo (w : Int) : Int := if w = 14 ∨ w = 17 then 0 else 1
def p_hi (w : Int) : Int := if w = 13 then 50 else if w = 14 then 8 else if w = 15 then 360 else if w = 16 then 720 else if w = 17 then 20 else 40
def p_bar (b : Nat → Int) (n : Nat) (na : Int) (s : p_S) : p_S := if s.1 = 0 then (if 19 ≤ p_wi b n s.2.2 ∧ p_wi b n s.2.2 ≤ 22 then p_con b n na 4 (p_oc b n na 4) (p_wd b n 28 (p_nx s)) else p_fl b n 1 s) else s
def p_rul (b : Nat → Int) (n : Nat) (na : Int) (c : Nat) (s : p_S) : p_S :=
  if s.1 = 0 then (if (13 ≤ p_wi b n s.2.2 ∧ p_wi b n s.2.2 ≤ 18) ∨ p_wi b n s.2.2 = 23 then (if 20 ≤ c then p_fl b n 4 s else if p_wi b n s.2.2 = 23 then p_sg b n 59 (p_bar b n na (p_nx s)) else p_sg b n 59 (p_num b n (p_lo (p_wi b n s.2.2)) (p_hi (p_wi b n s.2.2)) (p_nx s))) else p_fl b n 1 s) else s
def p_ac1 (b : Nat → Int) (n : Nat) (na : Int) (q : Nat × p_S) : Nat × p_S := if q.2.1 = 0 ∧ p_ki b n q.2.2.2 ≠ 0 then (q.1 + 1, p_rul b n na q.1 q.2) else q
def p_act (b : Nat → Int) (n : Nat) : Nat × p_S := p_lp n (p_ac1 b n 13) (0, 0, 0, 0)
/-! clauses -/
def p_sam (b : Nat → Int) : Nat → Nat → Nat → Bool
  | 0, _, _ => true
  | m + 1, s, t => decide (b s = b t) && p_sam b m (s + 1) (t + 1)
/-- a name told before: (where it begins, where it ends) -/
def p_sm (b : Nat → Int) (q : Nat × Nat) (s e : Nat) : Int := if q.2 - q.1 = e - s ∧ p_sam b (e - s) q.1 s = true then 1 else 0
def p_hs (b : Nat → Int) : List (Nat × Nat) → Nat → Nat → Int
  | [], _, _ => 0
  | q :: r, s, e => if p_sm b q s e = 1 then 1 else p_hs b r s e
def p_prt (b : Nat → Int) (n : Nat) (s : p_S) : p_S := if s.1 = 0 ∧ p_wi b n s.2.2 = 29 then p_nx s else s
def p_en1 (b : Nat → Int) (n : Nat) (na : Int) (N : List (Nat × Nat)) (s : p_S) : p_S :=
  if s.1 = 0 then (if p_ki b n s.2.2 = 1 ∧ p_sp b n s.2.2 ≤ p_st b n s.2.2 + 8 then (if p_hs b N (p_st b n s.2.2) (p_sp b n s.2.2) = 1 then p_fl b n 3 s else p_prt b n (p_con b n na 4 (p_oc b n na 4) (p_wd b n 28 (p_sum b n na (p_op b n na 4) (p_wd b n 27 (p_nx s)))))) else p_fl b n 1 s) else s
def p_ma1 (b : Nat → Int) (n : Nat) (s : p_S) : p_S := if s.1 = 0 ∧ 0 ≤ p_nm b n s.2.2 then p_num b n 0 7 s else s
def p_mar (b : Nat → Int) (n : Nat) (s : p_S) : p_S := p_lp n (p_ma1 b n) (p_num b n 0 7 s)
def p_tru (b : Nat → Int) (n : Nat) (s : p_S) : p_S := p_num b n 1 (p_nm b n s.2.2) (p_num b n 1 7 s)
abbrev p_D : Type := Nat × List (Nat × Nat) × p_S
def p_cl (b : Nat → Int) (n : Nat) (na : Int) (q : p_D) : List (Nat × Nat) × p_S :=
  if q.2.2.1 = 0 then (if p_wi b n q.2.2.2.2 = 26 ∨ p_wi b n q.2.2.2.2 = 24 ∨ p_wi b n q.2.2.2.2 = 25 then (if 12 ≤ q.1 ∨ (p_wi b n q.2.2.2.2 = 26 ∧ 6 ≤ q.2.1.length) then (q.2.1, p_fl b n 4 q.2.2) else if p_wi b n q.2.2.2.2 = 26 then (q.2.1 ++ [(p_st b n (q.2.2.2.2 + 1), p_sp b n (q.2.2.2.2 + 1))], p_sg b n 59 (p_en1 b n na q.2.1 (p_nx q.2.2))) else if p_wi b n q.2.2.2.2 = 24 then (q.2.1, p_sg b n 59 (p_mar b n (p_nx q.2.2))) else (q.2.1, p_sg b n 59 (p_tru b n (p_nx q.2.2)))) else (q.2.1, p_fl b n 1 q.2.2)) else q.2
def p_de1 (b : Nat → Int) (n : Nat) (na : Int) (q : p_D) : p_D := if q.2.2.1 = 0 ∧ p_ki b n q.2.2.2.2 ≠ 0 then (q.1 + 1, p_cl b n na q) else q
def p_dee (b : Nat → Int) (n : Nat) : p_D := p_lp n (p_de1 b n 10) (0, [], 0, 0, 0)
/-- nothing more -/
def p_ov (b : Nat → Int) (n : Nat) (s : p_S) : p_S := if s.1 = 0 ∧ p_ki b n s.2.2 ≠ 0 then p_fl b n 1 s else s
def p_nea (b : Nat → Int) (n : Nat) : p_S := p_ov b n (if p_wi b n 0 = 26 then p_sg b n 59 (p_en1 b n 10 [] (p_nx (0, 0, 0))) else p_fl b n 1 (0, 0, 0))
section PL
variable {b : Nat → Int} {n k r : Nat} {na c e j lo hi : Int} {s : p_S} {op oc : p_S → p_S}
theorem p_it_out {α : Type} (f : α → α) : ∀ (m : Nat) (s : α), p_it f (m + 1) s = f (p_it f m s)
  | 0, _ => rfl
  | m + 1, s => p_it_out f m (f s)
theorem p_it_fix {α : Type} {f : α → α} {s : α} (h : f s = s) : ∀ m : Nat, p_it f m s = s
  | 0 => rfl
  | m + 1 => by
    show p_it f m (f s) = s
    rw [h]
    exact p_it_fix h m
/-- each turn goes on, and there are at most n -/
def p_P {α : Type} (n : Nat) (κ : α → Nat) (f : α → α) : Prop := ∀ s, f s = s ∨ (κ s < n ∧ κ s < κ (f s))
theorem p_P.fix {α : Type} {n : Nat} {κ : α → Nat} {f : α → α} (h : p_P n κ f) : ∀ (m : Nat) (s : α), n + 1 ≤ κ s + m → f (p_it f m s) = p_it f m s
  | 0, s, h1 => by
    rcases h s with h2 | h2
    · exact h2
    · omega
  | m + 1, s, h1 => by
    show f (p_it f m (f s)) = p_it f m (f s)
    rcases h s with h2 | h2
    · rw [h2, p_it_fix h2]
      exact h2
    · exact p_P.fix h m (f s) (by omega)
/-- a turn of the loop -/
theorem p_P.go {α : Type} {n : Nat} {κ : α → Nat} {f : α → α} (h : p_P n κ f) (s : α) : p_lp n f (f s) = p_lp n f s := by
  have e : p_lp n f (f s) = p_it f (n + 1 + 1) s := rfl
  rw [e, p_it_out]
  exact h.fix (n + 1) s (by omega)
theorem p_lp_stop {α : Type} {n : Nat} {f : α → α} {s : α} (h : f s = s) : p_lp n f s = s := p_it_fix h (n + 1)
/-- it doesn't go back -/
def p_M (f : p_S → p_S) : Prop := ∀ s, s.2.2 ≤ (f s).2.2
/-- with a fault nothing more is read -/
def p_Z (f : p_S → p_S) : Prop := ∀ s, s.1 ≠ 0 → f s = s
theorem p_it_M {f : p_S → p_S} (h : p_M f) : ∀ m, p_M (p_it f m)
  | 0 => fun _ => Nat.le_refl _
  | m + 1 => fun s => Nat.le_trans (h s) (p_it_M h m (f s))
theorem p_lp_M {n : Nat} {f : p_S → p_S} (h : p_M f) : p_M (p_lp n f) := p_it_M h (n + 1)
theorem p_lp_Z {n : Nat} {f : p_S → p_S} (h : p_Z f) : p_Z (p_lp n f) := fun s hs => p_lp_stop (h s hs)
theorem p_fl_k : (p_fl b n e s).2.2 = s.2.2 := by
  unfold p_fl
  split <;> rfl
theorem p_fl_Z : p_Z (p_fl b n e) := fun s hs => if_neg hs
theorem p_sg_M : p_M (p_sg b n c) := fun s => by
  unfold p_sg
  split
  · split
    · exact Nat.le_succ _
    · rw [p_fl_k]
      exact Nat.le_refl _
  · exact Nat.le_refl _
theorem p_sg_Z : p_Z (p_sg b n c) := fun s hs => if_neg hs
theorem p_wd_M : p_M (p_wd b n c) := fun s => by
  unfold p_wd
  split
  · split
    · exact Nat.le_succ _
    · rw [p_fl_k]
      exact Nat.le_refl _
  · exact Nat.le_refl _
theorem p_wd_Z : p_Z (p_wd b n c) := fun s hs => if_neg hs
theorem p_num_M : p_M (p_num b n lo hi) := fun s => by
  unfold p_num
  split
  · split
    · split
      · exact Nat.le_succ _
      · rw [p_fl_k]
        exact Nat.le_refl _
    · rw [p_fl_k]
      exact Nat.le_refl _
  · exact Nat.le_refl _
theorem p_num_Z : p_Z (p_num b n lo hi) := fun s hs => if_neg hs
theorem p_fac_M (ho : p_M op) : p_M (p_fac b n na op) := fun s => by
  unfold p_fac
  split
  · split
    · split
      · exact Nat.le_succ _
      · rw [p_fl_k]
        exact Nat.le_refl _
    · split
      · split
        · exact Nat.le_succ _
        · rw [p_fl_k]
          exact Nat.le_refl _
      · split
        · exact ho s
        · rw [p_fl_k]
          exact Nat.le_refl _
  · exact Nat.le_refl _
theorem p_fac_Z : p_Z (p_fac b n na op) := fun s hs => if_neg hs
/-- a step that goes on behind a token -/
theorem p_if_M {f : p_S → p_S} (hf : p_M f) (C : p_S → Prop) [DecidablePred C] : p_M (fun s => if C s then f (p_nx s) else s) := fun s => by
  show s.2.2 ≤ (if C s then f (p_nx s) else s).2.2
  by_cases h : C s
  · rw [if_pos h]
    exact Nat.le_trans (Nat.le_succ _) (hf (p_nx s))
  · rw [if_neg h]
    exact Nat.le_refl _
theorem p_ki_lt (h : p_ki b n k ≠ 0) : p_st b n k < n := by
  refine Classical.byContradiction fun h1 => h ?_
  unfold p_ki
  rw [if_neg h1]
theorem p_sv_lt (h : p_sv b n k ≠ -1) : p_st b n k < n := by
  refine p_ki_lt (k := k) fun h1 => h ?_
  unfold p_sv
  rw [h1]
  rfl
theorem p_wi_lt (h : p_wi b n k ≠ -1) : p_st b n k < n := by
  refine p_ki_lt (k := k) fun h1 => h ?_
  unfold p_wi
  rw [h1]
  rfl
theorem p_nm_lt (h : p_nm b n k ≠ -1) : p_st b n k < n := by
  refine p_ki_lt (k := k) fun h1 => h ?_
  unfold p_nm
  rw [h1]
  rfl
/-- how far it is: the token, and one more with a fault -/
def p_ka (s : p_S) : Nat := s.2.2 + if s.1 = 0 then 0 else 1
theorem p_ka_0 (h : s.1 = 0) : p_ka s = s.2.2 := by
  unfold p_ka
  rw [if_pos h]
  rfl
theorem p_ka_le : s.2.2 ≤ p_ka s := Nat.le_add_right _ _
theorem p_ka_1 (h : s.1 ≠ 0) : p_ka s = s.2.2 + 1 := by
  unfold p_ka
  rw [if_neg h]
theorem p_k_n (h : p_st b n k < n) : k < n := by
  have := p_tp_k k h
  omega
theorem p_if_P {f : p_S → p_S} (hf : p_M f) (C : p_S → Prop) [DecidablePred C] (hC : ∀ s, C s → s.1 = 0 ∧ p_st b n s.2.2 < n) : p_P n p_ka (fun s => if C s then f (p_nx s) else s) := fun s => by
  by_cases h : C s
  · refine Or.inr ?_
    have h1 := hC s h
    have h2 := p_k_n h1.2
    have h3 := hf (p_nx s)
    have h4 : (p_nx s).2.2 = s.2.2 + 1 := rfl
    have h5 : (f (p_nx s)).2.2 ≤ p_ka (f (p_nx s)) := p_ka_le
    show p_ka s < n ∧ p_ka s < p_ka (if C s then f (p_nx s) else s)
    rw [if_pos h, p_ka_0 h1.1]
    omega
  · exact Or.inl (if_neg h)
theorem p_pr1_M (ho : p_M op) : p_M (p_pr1 b n na op) := p_if_M (p_fac_M ho) (fun s => s.1 = 0 ∧ p_sv b n s.2.2 = 42)
theorem p_pr1_Z : p_Z (p_pr1 b n na op) := fun s hs => if_neg fun h => hs h.1
theorem p_pr1_P (ho : p_M op) : p_P n p_ka (p_pr1 b n na op) := p_if_P (p_fac_M ho) (fun s => s.1 = 0 ∧ p_sv b n s.2.2 = 42) (fun s h => ⟨h.1, p_sv_lt (by rw [h.2]; decide)⟩)
theorem p_pro_M (ho : p_M op) : p_M (p_pro b n na op) := fun s => Nat.le_trans (p_fac_M ho s) (p_lp_M (p_pr1_M ho) _)
theorem p_pro_Z : p_Z (p_pro b n na op) := fun s hs => by
  unfold p_pro
  rw [p_fac_Z s hs]
  exact p_lp_Z p_pr1_Z s hs
theorem p_su1_M (ho : p_M op) : p_M (p_su1 b n na op) := p_if_M (p_pro_M ho) (fun s => s.1 = 0 ∧ (p_sv b n s.2.2 = 43 ∨ p_sv b n s.2.2 = 45))
theorem p_su1_Z : p_Z (p_su1 b n na op) := fun s hs => if_neg fun h => hs h.1
theorem p_su1_P (ho : p_M op) : p_P n p_ka (p_su1 b n na op) := p_if_P (p_pro_M ho) (fun s => s.1 = 0 ∧ (p_sv b n s.2.2 = 43 ∨ p_sv b n s.2.2 = 45)) (fun s h => ⟨h.1, p_sv_lt (by rcases h.2 with h | h <;> rw [h] <;> decide)⟩)
theorem p_sum_M (ho : p_M op) : p_M (p_sum b n na op) := fun s => Nat.le_trans (p_pro_M ho s) (p_lp_M (p_su1_M ho) _)
theorem p_sum_Z : p_Z (p_sum b n na op) := fun s hs => by
  unfold p_sum
  rw [p_pro_Z s hs]
  exact p_lp_Z p_su1_Z s hs
theorem p_op_M : ∀ r, p_M (p_op b n na r)
  | 0 => fun s => by
    show s.2.2 ≤ (p_fl b n 4 s).2.2
    rw [p_fl_k]
    exact Nat.le_refl _
  | r + 1 => fun s => Nat.le_trans (Nat.le_trans (Nat.le_succ _) (p_sum_M (p_op_M r) (p_nx s))) (p_sg_M _)
theorem p_cmp_M : p_M (p_cmp b n na r) := fun s => by
  have h := p_sum_M (b := b) (n := n) (na := na) (p_op_M (b := b) (n := n) (na := na) r) s
  unfold p_cmp
  split
  · split
    · exact Nat.le_trans (Nat.le_trans h (Nat.le_succ _)) (p_sum_M (p_op_M r) (p_nx _))
    · rw [p_fl_k]
      exact h
  · exact h
theorem p_cmp_Z : p_Z (p_cmp b n na r) := fun s hs => by
  unfold p_cmp
  rw [p_sum_Z s hs, if_neg hs]
theorem p_id_M : p_M (fun s => s) := fun _ => Nat.le_refl _
theorem p_no1_M : p_M (p_no1 b n) := p_if_M p_id_M (fun s => s.1 = 0 ∧ p_wi b n s.2.2 = 30)
theorem p_no1_Z : p_Z (p_no1 b n) := fun s hs => if_neg fun h => hs h.1
theorem p_no1_P : p_P n p_ka (p_no1 b n) := p_if_P p_id_M (fun s => s.1 = 0 ∧ p_wi b n s.2.2 = 30) (fun s h => ⟨h.1, p_wi_lt (by rw [h.2]; decide)⟩)
theorem p_te1_M (ho : p_M oc) : p_M (p_te1 b n na r oc) := fun s => by
  unfold p_te1
  split
  · split
    · exact ho s
    · exact p_cmp_M s
  · exact Nat.le_refl _
theorem p_te1_Z : p_Z (p_te1 b n na r oc) := fun s hs => if_neg hs
theorem p_ter_M (ho : p_M oc) : p_M (p_ter b n na r oc) := fun s => Nat.le_trans (p_lp_M p_no1_M s) (p_te1_M ho _)
theorem p_ter_Z : p_Z (p_ter b n na r oc) := fun s hs => by
  unfold p_ter
  rw [p_lp_Z p_no1_Z s hs]
  exact p_te1_Z s hs
theorem p_bo1_M (ho : p_M oc) : p_M (p_bo1 b n na r oc) := p_if_M (p_ter_M ho) (fun s => s.1 = 0 ∧ p_wi b n s.2.2 = 31)
theorem p_bo1_Z : p_Z (p_bo1 b n na r oc) := fun s hs => if_neg fun h => hs h.1
theorem p_bo1_P (ho : p_M oc) : p_P n p_ka (p_bo1 b n na r oc) := p_if_P (p_ter_M ho) (fun s => s.1 = 0 ∧ p_wi b n s.2.2 = 31) (fun s h => ⟨h.1, p_wi_lt (by rw [h.2]; decide)⟩)
theorem p_bot_M (ho : p_M oc) : p_M (p_bot b n na r oc) := fun s => Nat.le_trans (p_ter_M ho s) (p_lp_M (p_bo1_M ho) _)
theorem p_bot_Z : p_Z (p_bot b n na r oc) := fun s hs => by
  unfold p_bot
  rw [p_ter_Z s hs]
  exact p_lp_Z p_bo1_Z s hs
theorem p_co1_M (ho : p_M oc) : p_M (p_co1 b n na r oc) := p_if_M (p_bot_M ho) (fun s => s.1 = 0 ∧ p_wi b n s.2.2 = 32)
theorem p_co1_Z : p_Z (p_co1 b n na r oc) := fun s hs => if_neg fun h => hs h.1
theorem p_co1_P (ho : p_M oc) : p_P n p_ka (p_co1 b n na r oc) := p_if_P (p_bot_M ho) (fun s => s.1 = 0 ∧ p_wi b n s.2.2 = 32) (fun s h => ⟨h.1, p_wi_lt (by rw [h.2]; decide)⟩)
theorem p_con_M (ho : p_M oc) : p_M (p_con b n na r oc) := fun s => Nat.le_trans (p_bot_M ho s) (p_lp_M (p_co1_M ho) _)
theorem p_con_Z : p_Z (p_con b n na r oc) := fun s hs => by
  unfold p_con
  rw [p_bot_Z s hs]
  exact p_lp_Z p_co1_Z s hs
theorem p_oc_M : ∀ r, p_M (p_oc b n na r)
  | 0 => fun s => by
    show s.2.2 ≤ (p_fl b n 4 s).2.2
    rw [p_fl_k]
    exact Nat.le_refl _
  | r + 1 => fun s => Nat.le_trans (Nat.le_trans (Nat.le_succ _) (p_con_M (p_oc_M r) (p_nx s))) (p_sg_M _)
theorem p_bar_M : p_M (p_bar b n na) := fun s => by
  unfold p_bar
  split
  · split
    · exact Nat.le_trans (Nat.le_trans (Nat.le_succ _) (p_wd_M (p_nx s))) (p_con_M (p_oc_M 4) _)
    · rw [p_fl_k]
      exact Nat.le_refl _
  · exact Nat.le_refl _
theorem p_bar_Z : p_Z (p_bar b n na) := fun s hs => if_neg hs
theorem p_num_up (h : s.1 = 0) : p_ka s < p_ka (p_num b n lo hi s) := by
  rw [p_ka_0 h]
  unfold p_num
  rw [if_pos h]
  split
  · split
    · rw [p_ka_0 (by exact h)]
      exact Nat.lt_succ_self _
    · unfold p_fl
      rw [if_pos h, p_ka_1 (by show (2 : Int) ≠ 0; decide)]
      exact Nat.lt_succ_self _
  · unfold p_fl
    rw [if_pos h, p_ka_1 (by show (1 : Int) ≠ 0; decide)]
    exact Nat.lt_succ_self _
theorem p_ma1_M : p_M (p_ma1 b n) := fun s => by
  unfold p_ma1
  split
  · exact p_num_M s
  · exact Nat.le_refl _
theorem p_ma1_Z : p_Z (p_ma1 b n) := fun s hs => if_neg fun h => hs h.1
theorem p_ma1_P : p_P n p_ka (p_ma1 b n) := fun s => by
  by_cases h : s.1 = 0 ∧ 0 ≤ p_nm b n s.2.2
  · refine Or.inr ⟨?_, ?_⟩
    · rw [p_ka_0 h.1]
      exact p_k_n (p_nm_lt (b := b) (n := n) (k := s.2.2) (by omega))
    · show p_ka s < p_ka (if s.1 = 0 ∧ 0 ≤ p_nm b n s.2.2 then p_num b n 0 7 s else s)
      rw [if_pos h]
      exact p_num_up h.1
  · exact Or.inl (if_neg h)
theorem p_mar_M : p_M (p_mar b n) := fun s => Nat.le_trans (p_num_M s) (p_lp_M p_ma1_M _)
theorem p_mar_Z : p_Z (p_mar b n) := fun s hs => by
  unfold p_mar
  rw [p_num_Z s hs]
  exact p_lp_Z p_ma1_Z s hs
theorem p_tru_M : p_M (p_tru b n) := fun s => Nat.le_trans (p_num_M s) (p_num_M _)
theorem p_tru_Z : p_Z (p_tru b n) := fun s hs => by
  unfold p_tru
  rw [p_num_Z s hs]
  exact p_num_Z s hs
theorem p_prt_M : p_M (p_prt b n) := p_if_M p_id_M (fun s => s.1 = 0 ∧ p_wi b n s.2.2 = 29)
theorem p_prt_Z : p_Z (p_prt b n) := fun s hs => if_neg fun h => hs h.1
theorem p_en1_M {N : List (Nat × Nat)} : p_M (p_en1 b n na N) := fun s => by
  unfold p_en1
  split
  · split
    · split
      · rw [p_fl_k]
        exact Nat.le_refl _
      · exact Nat.le_trans (Nat.le_succ _) (Nat.le_trans (p_wd_M (p_nx s)) (Nat.le_trans (p_sum_M (p_op_M 4) _) (Nat.le_trans (p_wd_M _) (Nat.le_trans (p_con_M (p_oc_M 4) _) (p_prt_M _)))))
    · rw [p_fl_k]
      exact Nat.le_refl _
  · exact Nat.le_refl _
theorem p_en1_Z {N : List (Nat × Nat)} : p_Z (p_en1 b n na N) := fun s hs => if_neg hs
/-- a fault, or a token on -/
theorem p_fl_up {e : Int} (he : e ≠ 0) (h : s.1 = 0) : p_ka s < p_ka (p_fl b n e s) := by
  rw [p_ka_0 h]
  unfold p_fl
  rw [if_pos h, p_ka_1 (by exact he)]
  exact Nat.lt_succ_self _
theorem p_nx_up {f : p_S → p_S} (hf : p_M f) (h : s.1 = 0) : p_ka s < p_ka (f (p_nx s)) := by
  rw [p_ka_0 h]
  have h3 := hf (p_nx s)
  have h4 : (p_nx s).2.2 = s.2.2 + 1 := rfl
  have h5 : (f (p_nx s)).2.2 ≤ p_ka (f (p_nx s)) := p_ka_le
  omega
theorem p_rul_up {c : Nat} (h : s.1 = 0) : p_ka s < p_ka (p_rul b n na c s) := by
  unfold p_rul
  rw [if_pos h]
  split
  · split
    · exact p_fl_up (by decide) h
    · split
      · exact p_nx_up (f := fun t => p_sg b n 59 (p_bar b n na t)) (fun t => Nat.le_trans (p_bar_M t) (p_sg_M _)) h
      · exact p_nx_up (f := fun t => p_sg b n 59 (p_num b n _ _ t)) (fun t => Nat.le_trans (p_num_M t) (p_sg_M _)) h
  · exact p_fl_up (by decide) h
theorem p_rul_Z {c : Nat} : p_Z (p_rul b n na c) := fun s hs => if_neg hs
theorem p_ac1_P : p_P n (fun q : Nat × p_S => p_ka q.2) (p_ac1 b n na) := fun q => by
  by_cases h : q.2.1 = 0 ∧ p_ki b n q.2.2.2 ≠ 0
  · refine Or.inr ⟨?_, ?_⟩
    · show p_ka q.2 < n
      rw [p_ka_0 h.1]
      exact p_k_n (p_ki_lt h.2)
    · show p_ka q.2 < p_ka (if q.2.1 = 0 ∧ p_ki b n q.2.2.2 ≠ 0 then (q.1 + 1, p_rul b n na q.1 q.2) else q).2
      rw [if_pos h]
      exact p_rul_up h.1
  · exact Or.inl (if_neg h)
theorem p_cl_up {q : p_D} (h : q.2.2.1 = 0) : p_ka q.2.2 < p_ka (p_cl b n na q).2 := by
  unfold p_cl
  rw [if_pos h]
  split
  · split
    · exact p_fl_up (by decide) h
    · split
      · exact p_nx_up (f := fun t => p_sg b n 59 (p_en1 b n na q.2.1 t)) (fun t => Nat.le_trans (p_en1_M t) (p_sg_M _)) h
      · split
        · exact p_nx_up (f := fun t => p_sg b n 59 (p_mar b n t)) (fun t => Nat.le_trans (p_mar_M t) (p_sg_M _)) h
        · exact p_nx_up (f := fun t => p_sg b n 59 (p_tru b n t)) (fun t => Nat.le_trans (p_tru_M t) (p_sg_M _)) h
  · exact p_fl_up (by decide) h
theorem p_de1_P : p_P n (fun q : p_D => p_ka q.2.2) (p_de1 b n na) := fun q => by
  by_cases h : q.2.2.1 = 0 ∧ p_ki b n q.2.2.2.2 ≠ 0
  · refine Or.inr ⟨?_, ?_⟩
    · show p_ka q.2.2 < n
      rw [p_ka_0 h.1]
      exact p_k_n (p_ki_lt h.2)
    · show p_ka q.2.2 < p_ka (if q.2.2.1 = 0 ∧ p_ki b n q.2.2.2.2 ≠ 0 then (q.1 + 1, p_cl b n na q) else q).2.2
      rw [if_pos h]
      exact p_cl_up h.1
  · exact Or.inl (if_neg h)
theorem p_sam_out : ∀ (m s t : Nat), p_sam b (m + 1) s t = (p_sam b m s t && decide (b (s + m) = b (t + m)))
  | 0, s, t => by
    show (decide (b s = b t) && true) = (true && decide (b s = b t))
    rw [Bool.and_true, Bool.true_and]
  | m + 1, s, t => by
    show (decide (b s = b t) && p_sam b (m + 1) (s + 1) (t + 1)) = (decide (b s = b t) && p_sam b m (s + 1) (t + 1) && decide (b (s + (m + 1)) = b (t + (m + 1))))
    rw [p_sam_out m (s + 1) (t + 1), Bool.and_assoc, show s + 1 + m = s + (m + 1) from by omega, show t + 1 + m = t + (m + 1) from by omega]
theorem p_sam_le {m : Nat} : ∀ (d : Nat) {s t : Nat}, p_sam b (m + d) s t = true → p_sam b m s t = true
  | 0, _, _, h => h
  | d + 1, s, t, h => by
    rw [← Nat.add_assoc, p_sam_out, Bool.and_eq_true] at h
    exact p_sam_le d h.1
theorem p_hs_r : ∀ (N : List (Nat × Nat)) (s e : Nat), p_hs b N s e = 0 ∨ p_hs b N s e = 1
  | [], _, _ => Or.inl rfl
  | q :: r, s, e => by
    show (if p_sm b q s e = 1 then (1 : Int) else p_hs b r s e) = 0 ∨ (if p_sm b q s e = 1 then (1 : Int) else p_hs b r s e) = 1
    by_cases h : p_sm b q s e = 1
    · rw [if_pos h]
      exact Or.inr rfl
    · rw [if_neg h]
      exact p_hs_r r s e
theorem p_sm_r {q : Nat × Nat} {s e : Nat} : p_sm b q s e = 0 ∨ p_sm b q s e = 1 := by
  unfold p_sm
  split
  · exact Or.inr rfl
  · exact Or.inl rfl
/-- one name more -/
theorem p_hs_out : ∀ (N : List (Nat × Nat)) (i : Nat) (q : Nat × Nat) (s e : Nat), N[i]? = some q → p_hs b (N.take (i + 1)) s e = if p_hs b (N.take i) s e = 1 ∨ p_sm b q s e = 1 then 1 else 0
  | [], _, _, _, _, h => by simp at h
  | v :: r, 0, q, s, e, h => by
    have h9 : v = q := by simpa using h
    subst h9
    show (if p_sm b v s e = 1 then (1 : Int) else 0) = if (0 : Int) = 1 ∨ p_sm b v s e = 1 then 1 else 0
    by_cases h : p_sm b v s e = 1
    · rw [if_pos h, if_pos (Or.inr h)]
    · rw [if_neg h, if_neg (fun h9 => by rcases h9 with h9 | h9; exact absurd h9 (by decide); exact h h9)]
  | v :: r, i + 1, q, s, e, h => by
    have h2 := p_hs_out r i q s e (by simpa using h)
    show (if p_sm b v s e = 1 then (1 : Int) else p_hs b (r.take (i + 1)) s e) = if (if p_sm b v s e = 1 then (1 : Int) else p_hs b (r.take i) s e) = 1 ∨ p_sm b q s e = 1 then 1 else 0
    by_cases h : p_sm b v s e = 1
    · rw [if_pos h, if_pos h, if_pos (Or.inl rfl)]
    · rw [if_neg h, if_neg h]
      exact h2
/-- which word: by the words themselves -/
theorem p_ix_ge {s e : Nat} : ∀ (ws : List (List Int)) (i : Int), p_ix b s e ws i = -1 ∨ (i ≤ p_ix b s e ws i ∧ p_ix b s e ws i < i + ws.length)
  | [], _ => Or.inl rfl
  | w :: r, i => by
    show (if p_eb b s e w = true then i else p_ix b s e r (i + 1)) = -1 ∨ _
    by_cases h : p_eb b s e w = true
    · refine Or.inr ?_
      show i ≤ (if p_eb b s e w = true then i else p_ix b s e r (i + 1)) ∧ (if p_eb b s e w = true then i else p_ix b s e r (i + 1)) < i + (w :: r).length
      rw [if_pos h, List.length_cons]
      omega
    · rw [if_neg h]
      rcases p_ix_ge (s := s) (e := e) r (i + 1) with h1 | h1
      · exact Or.inl h1
      · refine Or.inr ?_
        show i ≤ (if p_eb b s e w = true then i else p_ix b s e r (i + 1)) ∧ (if p_eb b s e w = true then i else p_ix b s e r (i + 1)) < i + (w :: r).length
        rw [if_neg h, List.length_cons]
        omega
theorem p_mb_eq {b : Nat → Int} : ∀ (w v : List Int) (s : Nat), w.length = v.length → p_mb b s w = true → p_mb b s v = true → w = v
  | [], [], _, _, _, _ => rfl
  | [], _ :: _, _, h, _, _ => by simp at h
  | _ :: _, [], _, h, _, _ => by simp at h
  | c :: w, d :: v, s, h, h1, h2 => by
    unfold p_mb at h1 h2
    rw [Bool.and_eq_true] at h1 h2
    have e1 := of_decide_eq_true h1.1
    have e2 := of_decide_eq_true h2.1
    rw [p_mb_eq w v (s + 1) (by simpa using h) h1.2 h2.2, ← e1, ← e2]
theorem p_eb_eq {w v : List Int} {s e : Nat} (h1 : p_eb b s e w = true) (h2 : p_eb b s e v = true) : w = v := by
  unfold p_eb at h1 h2
  rw [Bool.and_eq_true] at h1 h2
  have e1 := of_decide_eq_true h1.1
  have e2 := of_decide_eq_true h2.1
  exact p_mb_eq w v s (by omega) h1.2 h2.2
theorem p_ix_of {s e : Nat} : ∀ (ws : List (List Int)) (i : Int) (j : Nat) (w : List Int), ws[j]? = some w → p_eb b s e w = true → (∀ k v, ws[k]? = some v → k < j → v ≠ w) → p_ix b s e ws i = i + j
  | [], _, _, _, h, _, _ => by simp at h
  | v :: r, i, 0, w, h, h1, _ => by
    have e9 : v = w := by simpa using h
    subst e9
    show (if p_eb b s e v = true then i else p_ix b s e r (i + 1)) = _
    rw [if_pos h1]
    exact (Int.add_zero i).symm
  | v :: r, i, j + 1, w, h, h1, h2 => by
    show (if p_eb b s e v = true then i else p_ix b s e r (i + 1)) = _
    have e9 : ¬ p_eb b s e v = true := fun h9 => h2 0 v rfl (Nat.succ_pos j) (p_eb_eq h9 h1)
    rw [if_neg e9, p_ix_of r (i + 1) j w (by simpa using h) h1 (fun k v hk hj => h2 (k + 1) v (by simpa using hk) (by omega))]
    push_cast
    omega
theorem p_ix_is {s e : Nat} : ∀ (ws : List (List Int)) (i : Int) (j : Nat), p_ix b s e ws i = i + j → (0 : Int) ≤ i → ∃ w, ws[j]? = some w ∧ p_eb b s e w = true
  | [], i, j, h, h0 => by
    have h9 : (-1 : Int) = i + j := h
    omega
  | v :: r, i, j, h, h0 => by
    have h9 : (if p_eb b s e v = true then i else p_ix b s e r (i + 1)) = i + j := h
    by_cases h1 : p_eb b s e v = true
    · rw [if_pos h1] at h9
      have : j = 0 := by omega
      subst this
      exact ⟨v, rfl, h1⟩
    · rw [if_neg h1] at h9
      have h8 := p_ix_ge (b := b) (s := s) (e := e) r (i + 1)
      match j with
      | 0 => omega
      | j + 1 =>
        have h7 : p_ix b s e r (i + 1) = i + 1 + (j : Int) := by omega
        obtain ⟨w, h2, h3⟩ := p_ix_is r (i + 1) j h7 (by omega)
        exact ⟨w, h2, h3⟩
theorem p_ws_ne : ∀ j, j < p_ws.length → ∀ k, k < j → p_ws[k]? ≠ p_ws[j]? := by decide +kernel
/-- the word j stands there, just if its bytes do -/
theorem p_wi_iff {j : Nat} {w : List Int} (hj : p_ws[j]? = some w) : p_wi b n k = j ↔ p_ki b n k = 1 ∧ p_eb b (p_st b n k) (p_sp b n k) w = true := by
  have hl : j < p_ws.length := (List.getElem?_eq_some_iff.mp hj).1
  unfold p_wi
  by_cases h : p_ki b n k = 1
  · rw [if_pos h]
    constructor
    · intro h1
      obtain ⟨v, h2, h3⟩ := p_ix_is (b := b) (s := p_st b n k) (e := p_sp b n k) p_ws 0 j (by omega) (Int.le_refl 0)
      cases hj.symm.trans h2
      exact ⟨h, h3⟩
    · intro h1
      rw [p_ix_of p_ws 0 j w hj h1.2 (fun k v hk hkj e9 => p_ws_ne j hl k hkj (by rw [hk, hj, e9]))]
      omega
  · rw [if_neg h]
    constructor
    · intro h1
      omega
    · intro h1
      exact absurd h1.1 h
theorem p_wi_ge : -1 ≤ p_wi b n k ∧ p_wi b n k ≤ 32 := by
  unfold p_wi
  split
  · rcases p_ix_ge (b := b) (s := p_st b n k) (e := p_sp b n k) p_ws 0 with h | h
    · rw [h]
      decide
    · have h1 : p_ws.length = 33 := by decide
      omega
  · decide
end PL
