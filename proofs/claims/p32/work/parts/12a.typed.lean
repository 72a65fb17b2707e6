/-! THE TYPED MACHINE: what is known of the memory is, address by address, a type (an object of a class; an array of a kind and a length; an int array of any length up to 400; a list; a list's row; an object under way). A type is a triple of numbers: (0, class, 0), (1, kind + 8 * effect, length), (2, 0, 0), (3, class of the elements, owner), (4, list, class of the elements), (5, class, 0). -/
abbrev tm_T : Type := Nat × Nat × Nat
abbrev tm_H : Type := Nat → Option tm_T
/-- a field's type: 0 int, 1 long, 2 a reference to that type, 3 a reference to that type owned by this object -/
abbrev tm_F : Type := Nat × tm_T
def tm_v (T : tm_H) (a : Nat) (f : tm_F) (v : Value) : Prop := match f.1 with
  | 0 => ∃ x : Int32, v = .int x
  | 1 => ∃ x : Int64, v = .long x
  | 2 => ∃ b : Nat, v = .ref b ∧ T b = some f.2
  | _ => ∃ b : Nat, v = .ref b ∧ T b = some (f.2.1, f.2.2.1, a)
def tm_fs (T : tm_H) (a : Nat) (F : List tm_F) (fs : List Value) : Prop := fs.length = F.length ∧ ∀ (k : Nat) (f : tm_F), F[k]? = some f → ∃ v, fs[k]? = some v ∧ tm_v T a f v
/-- the most that a list of this class's objects holds -/
def tm_mx (c : Nat) : Nat := match c with
  | 1 => 20
  | 2 => 20
  | 3 => 72
  | 6 => 12
  | 8 => 12
  | _ => 40
/-- a list: its cell, its row's address and length, what lies in it -/
def tm_ls (T : tm_H) (M : mj_M) (a c : Nat) (m n : Int32) (e N : Nat) (f : Nat → Option Nat) : Prop :=
  M a = some (.inr (0, [.int m, .ref e, .int n])) ∧ 0 ≤ n.toInt ∧ n.toInt ≤ (tm_mx c : Int) ∧ n.toInt ≤ (N : Int) ∧ N ≤ 2 * tm_mx c + 10 ∧ ((e = 0 ∧ N = 0) ∨ (T e = some (4, a, c) ∧ M e = some (.inl (4, N, .inr (.inr (.inr (.inr f))))) ∧ 1 ≤ N)) ∧ ∀ j : Nat, (j : Int) < n.toInt → ∃ b, f j = some b ∧ T b = some (0, c, 0)
def tm_c (FT : Nat → List tm_F) (T : tm_H) (M : mj_M) (a : Nat) (t : tm_T) : Prop := match t.1 with
  | 0 => ∃ fs, M a = some (.inr (t.2.1, fs)) ∧ tm_fs T a (FT t.2.1) fs
  | 1 => match t.2.1 % 8 with
    | 1 => ∃ f, M a = some (.inl (1, t.2.2, .inr (.inl f)))
    | k => ∃ f, M a = some (.inl (k, t.2.2, .inl f))
  | 2 => ∃ (N : Nat) (f : Nat → Int32), N ≤ 400 ∧ M a = some (.inl (0, N, .inl f))
  | 3 => ∃ (m n : Int32) (e N : Nat) (f : Nat → Option Nat), tm_ls T M a t.2.1 m n e N f
  | _ => True
def tm_W (FT : Nat → List tm_F) (T : tm_H) (M : mj_M) : Prop := ∀ (a : Nat) (t : tm_T), T a = some t → tm_c FT T M a t
/-- what a step may write: effects by number (a field k of class c: 100 c + k; an array held there: 100 c + 50 + k; lists of class c: 5000 + c) -/
def tm_e (W : Nat → Bool) (x : Nat) (t : tm_T) (a : Nat) (M M' : mj_M) : Prop := match t.1 with
  | 0 => ∀ fs, M a = some (.inr (t.2.1, fs)) → ∃ fs', M' a = some (.inr (t.2.1, fs')) ∧ ∀ k, W (100 * t.2.1 + k) = false → fs'[k]? = fs[k]?
  | 1 => W (t.2.1 / 8) = false → M' a = M a
  | 2 => M' a = M a
  | 3 => W (5000 + t.2.1) = false → M' a = M a
  | 4 => W (5000 + t.2.2) = false → M' a = M a
  | _ => a ≠ x → M' a = M a
/-- the memory between a start (T0, M0, n0) and now (T, M, n): well typed, what was there has its type still, nothing written but by the effects W (and in the object under way x) -/
def tm_I (FT : Nat → List tm_F) (W : Nat → Bool) (x : Nat) (T0 : tm_H) (M0 : mj_M) (n0 : Nat) (T : tm_H) (M : mj_M) (n : Nat) : Prop :=
  tm_W FT T M ∧ (∀ a t, T a = some t → 64 ≤ a ∧ a < n) ∧ 64 ≤ n0 ∧ n0 ≤ n ∧ (∀ a t, T0 a = some t → a < n0) ∧ (∀ a, a < n0 → T a = T0 a) ∧ (∀ a t, T0 a = some t → tm_e W x t a M0 M) ∧ ∀ a, a < n0 → T0 a = none → M a = M0 a
/-- what a call leaves -/
def tm_Q (FT : Nat → List tm_F) (W : Nat → Bool) (x : Nat) (T : tm_H) (M : mj_M) (n : Nat) (P : Option Value → tm_H → mj_M → Prop) : Option Value → mj_M → Nat → Prop := fun r M' n' => ∃ T', tm_I FT W x T M n T' M' n' ∧ P r T' M'
theorem tm_e.rf {W : Nat → Bool} {x : Nat} {t : tm_T} {a : Nat} {M : mj_M} : tm_e W x t a M M := by
  unfold tm_e
  split
  · exact fun fs h => ⟨fs, h, fun _ _ => rfl⟩
  all_goals first | exact fun _ => rfl | rfl
theorem tm_e.trans {W W1 : Nat → Bool} {x x1 : Nat} {t : tm_T} {a : Nat} {M M1 M2 : mj_M} (hW : ∀ k, W k = false → W1 k = false) (hx : 5 ≤ t.1 → a ≠ x → a ≠ x1) (h : tm_e W x t a M M1) (h1 : tm_e W1 x1 t a M1 M2) : tm_e W x t a M M2 := by
  obtain ⟨k, p, q⟩ := t
  match k with
  | 0 =>
    intro fs hf
    obtain ⟨fs1, e1, e2⟩ := h fs hf
    obtain ⟨fs2, e3, e4⟩ := h1 fs1 e1
    exact ⟨fs2, e3, fun k hk => (e4 k (hW _ hk)).trans (e2 k hk)⟩
  | 1 => exact fun hk => (h1 (hW _ hk)).trans (h hk)
  | 2 => exact Eq.trans h1 h
  | 3 => exact fun hk => (h1 (hW _ hk)).trans (h hk)
  | 4 => exact fun hk => (h1 (hW _ hk)).trans (h hk)
  | k + 5 => exact fun hk => (h1 (hx (Nat.le_add_left 5 k) hk)).trans (h hk)
theorem tm_v.mono {T T' : tm_H} {a : Nat} {f : tm_F} {v : Value} (hT : ∀ b t, T b = some t → t.1 < 5 → T' b = some t) (hf : f.2.1 < 5) (h : tm_v T a f v) : tm_v T' a f v := by
  obtain ⟨k, t⟩ := f
  match k with
  | 0 => exact h
  | 1 => exact h
  | 2 =>
    obtain ⟨b, e1, e2⟩ := h
    exact ⟨b, e1, hT _ _ e2 hf⟩
  | k + 3 =>
    obtain ⟨b, e1, e2⟩ := h
    exact ⟨b, e1, hT _ _ e2 hf⟩
/-- no field is typed by an object under way -/
def tm_ok (FT : Nat → List tm_F) : Prop := ∀ c, ∀ f ∈ FT c, f.2.1 < 5
theorem tm_fs.mono {FT : Nat → List tm_F} (hF : tm_ok FT) {T T' : tm_H} {a c : Nat} {fs : List Value} (hT : ∀ b t, T b = some t → t.1 < 5 → T' b = some t) (h : tm_fs T a (FT c) fs) : tm_fs T' a (FT c) fs := by
  refine ⟨h.1, fun k f hk => ?_⟩
  obtain ⟨v, e1, e2⟩ := h.2 k f hk
  exact ⟨v, e1, e2.mono hT (hF c f (List.mem_of_getElem? hk))⟩
theorem tm_ls.mono {T T' : tm_H} {M M' : mj_M} {a c : Nat} {m n : Int32} {e N : Nat} {f : Nat → Option Nat} (hT : ∀ b t, T b = some t → t.1 < 5 → T' b = some t) (hM : M' a = M a) (he : T e = some (4, a, c) → M' e = M e) (h : tm_ls T M a c m n e N f) : tm_ls T' M' a c m n e N f := by
  obtain ⟨h1, h2, h3, h4, h5, h6, h7⟩ := h
  refine ⟨hM.trans h1, h2, h3, h4, h5, ?_, fun j hj => ?_⟩
  · rcases h6 with h6 | ⟨h6, h8, h9⟩
    · exact Or.inl h6
    · exact Or.inr ⟨hT _ _ h6 (Nat.lt_succ_self 4), (he h6).trans h8, h9⟩
  · obtain ⟨b, e1, e2⟩ := h7 j hj
    exact ⟨b, e1, hT _ _ e2 (Nat.succ_pos 4)⟩
theorem tm_c.mono {FT : Nat → List tm_F} (hF : tm_ok FT) {T T' : tm_H} {M M' : mj_M} {a : Nat} {t : tm_T} (hT : ∀ b t, T b = some t → t.1 < 5 → T' b = some t) (hM : M' a = M a) (he : ∀ e, T e = some (4, a, t.2.1) → M' e = M e) (h : tm_c FT T M a t) : tm_c FT T' M' a t := by
  obtain ⟨k, p, q⟩ := t
  match k with
  | 0 =>
    obtain ⟨fs, h1, h2⟩ := h
    exact ⟨fs, hM.trans h1, h2.mono hF hT⟩
  | 1 =>
    unfold tm_c at h ⊢
    simp only at h ⊢
    split at h
    · obtain ⟨f, h⟩ := h
      exact ⟨f, hM.trans h⟩
    · obtain ⟨f, h⟩ := h
      exact ⟨f, hM.trans h⟩
  | 2 =>
    obtain ⟨N, f, h1, h2⟩ := h
    exact ⟨N, f, h1, hM.trans h2⟩
  | 3 =>
    obtain ⟨m, n, e, N, f, h⟩ := h
    exact ⟨m, n, e, N, f, h.mono hT hM (he e)⟩
  | k + 4 => trivial
section TI
variable {FT : Nat → List tm_F} {W : Nat → Bool} {x n0 n : Nat} {T0 T : tm_H} {M0 M : mj_M}
theorem tm_I.rf (h1 : tm_W FT T M) (h2 : ∀ a t, T a = some t → 64 ≤ a ∧ a < n) (h3 : 64 ≤ n) : tm_I FT W x T M n T M n :=
  ⟨h1, h2, h3, Nat.le_refl _, fun a t h => (h2 a t h).2, fun _ _ => rfl, fun _ _ _ => tm_e.rf, fun _ _ _ => rfl⟩
/-- a start of its own, for a call -/
theorem tm_I.start {W1 : Nat → Bool} {x1 : Nat} (I : tm_I FT W x T0 M0 n0 T M n) : tm_I FT W1 x1 T M n T M n := tm_I.rf I.1 I.2.1 (Nat.le_trans I.2.2.1 I.2.2.2.1)
/-- behind a call -/
theorem tm_I.call {W1 : Nat → Bool} {x1 n1 : Nat} {T1 : tm_H} {M1 : mj_M} (I : tm_I FT W x T0 M0 n0 T M n) (J : tm_I FT W1 x1 T M n T1 M1 n1) (hW : ∀ k, W k = false → W1 k = false) (hx : x1 = x ∨ n0 ≤ x1) : tm_I FT W x T0 M0 n0 T1 M1 n1 := by
  obtain ⟨i1, i2, i3, i4, i5, i6, i7, i8⟩ := I
  obtain ⟨j1, j2, j3, j4, j5, j6, j7, j8⟩ := J
  refine ⟨j1, j2, i3, Nat.le_trans i4 j4, i5, fun a ha => (j6 a (Nat.lt_of_lt_of_le ha i4)).trans (i6 a ha), fun a t ht => ?_, fun a ha ht => ?_⟩
  · have ha := i5 a t ht
    refine (i7 a t ht).trans hW (fun _ hk => ?_) (j7 a t ((i6 a ha).trans ht))
    rcases hx with rfl | hx
    · exact hk
    · omega
  · exact (j8 a (Nat.lt_of_lt_of_le ha i4) ((i6 a ha).trans ht)).trans (i8 a ha ht)
/-- a cell made, or given its type, at an address that the start didn't have -/
theorem tm_I.at (hF : tm_ok FT) {T1 : tm_H} {M1 : mj_M} {n1 a : Nat} {t1 : tm_T} (I : tm_I FT W x T0 M0 n0 T M n) (hT : ∀ b, b ≠ a → T1 b = T b) (ha : T1 a = some t1) (hM : ∀ b, b ≠ a → M1 b = M b) (hn : n ≤ n1) (han : a < n1) (h0 : n0 ≤ a) (hold : ∀ t, T a = some t → 5 ≤ t.1) (hc : tm_c FT T1 M1 a t1) : tm_I FT W x T0 M0 n0 T1 M1 n1 := by
  obtain ⟨i1, i2, i3, i4, i5, i6, i7, i8⟩ := I
  have mono : ∀ b t, T b = some t → t.1 < 5 → T1 b = some t := by
    intro b t hb ht
    by_cases e : b = a
    · subst e
      have := hold t hb
      omega
    · exact (hT b e).trans hb
  refine ⟨fun b t hb => ?_, fun b t hb => ?_, i3, Nat.le_trans i4 hn, i5, fun b hb => (hT b (by omega)).trans (i6 b hb), fun b t hb => ?_, fun b hb ht => (hM b (by omega)).trans (i8 b hb ht)⟩
  · by_cases e : b = a
    · subst e
      cases ha.symm.trans hb
      exact hc
    · rw [hT b e] at hb
      refine (i1 b t hb).mono hF mono (hM b e) (fun e9 h9 => hM e9 fun h => ?_)
      subst h
      exact absurd (hold _ h9) (by show ¬ (5 ≤ 4); decide)
  · by_cases e : b = a
    · subst e
      exact ⟨Nat.le_trans i3 h0, han⟩
    · rw [hT b e] at hb
      exact ⟨(i2 b t hb).1, Nat.lt_of_lt_of_le (i2 b t hb).2 hn⟩
  · have hb0 := i5 b t hb
    have e9 : M1 b = M b := hM b (by omega)
    have h7 := i7 b t hb
    obtain ⟨k, p, q⟩ := t
    match k with
    | 0 =>
      intro fs hf
      obtain ⟨fs1, e1, e2⟩ := h7 fs hf
      exact ⟨fs1, e9.trans e1, e2⟩
    | 1 => exact fun hk => e9.trans (h7 hk)
    | 2 => exact e9.trans h7
    | 3 => exact fun hk => e9.trans (h7 hk)
    | 4 => exact fun hk => e9.trans (h7 hk)
    | k + 5 => exact fun hk => e9.trans (h7 hk)
/-- a cell written, its type as it was -/
theorem tm_I.wr (hF : tm_ok FT) {M1 : mj_M} {a : Nat} {t1 : tm_T} (I : tm_I FT W x T0 M0 n0 T M n) (ha : T a = some t1) (h4 : t1.1 ≠ 4) (hM : ∀ b, b ≠ a → M1 b = M b) (hc : tm_c FT T M1 a t1) (he : tm_e W x t1 a M M1 ∨ n0 ≤ a) : tm_I FT W x T0 M0 n0 T M1 n := by
  obtain ⟨i1, i2, i3, i4, i5, i6, i7, i8⟩ := I
  refine ⟨fun b t hb => ?_, i2, i3, i4, i5, i6, fun b t hb => ?_, fun b hb ht => ?_⟩
  · by_cases e : b = a
    · subst e
      cases ha.symm.trans hb
      exact hc
    · refine (i1 b t hb).mono hF (fun b t h _ => h) (hM b e) (fun e9 h9 => hM e9 fun h => ?_)
      subst h
      cases ha.symm.trans h9
      exact h4 rfl
  · by_cases e : b = a
    · subst e
      have hb0 := i5 b t hb
      rcases he with he | he
      · have ht : t = t1 := by
          have h9 := (i6 b hb0).trans hb
          rw [ha] at h9
          exact (Option.some.inj h9).symm
        subst ht
        exact (i7 b t hb).trans (fun _ h => h) (fun _ h => h) he
      · omega
    · have e9 : M1 b = M b := hM b e
      have h7 := i7 b t hb
      obtain ⟨k, p, q⟩ := t
      match k with
      | 0 =>
        intro fs hf
        obtain ⟨fs1, e1, e2⟩ := h7 fs hf
        exact ⟨fs1, e9.trans e1, e2⟩
      | 1 => exact fun hk => e9.trans (h7 hk)
      | 2 => exact e9.trans h7
      | 3 => exact fun hk => e9.trans (h7 hk)
      | 4 => exact fun hk => e9.trans (h7 hk)
      | k + 5 => exact fun hk => e9.trans (h7 hk)
  · refine (hM b fun e => ?_).trans (i8 b hb ht)
    subst e
    have h9 := (i6 b hb).symm.trans ha
    rw [ht] at h9
    cases h9
end TI
