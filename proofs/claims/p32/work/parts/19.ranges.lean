/-! THE REFERENCE'S NUMBERS: its int fields and its rows as functions to Int; the range that each keeps -/
def rv (M : mj_M) (o k : Nat) : Int := match M o with
  | some (.inr (_, fs)) => (match fs[k]? with
    | some (.int v) => v.toInt
    | some (.long v) => v.toInt
    | _ => 0)
  | _ => 0
def rr (M : mj_M) (o k : Nat) : Nat := match M o with
  | some (.inr (_, fs)) => (match fs[k]? with
    | some (.ref b) => b
    | _ => 0)
  | _ => 0
def rc (c : mj_C) (i : Nat) : Int := match c with
  | .inl (_, _, .inl f) => (f i).toInt
  | .inl (_, _, .inr (.inl f)) => (f i).toInt
  | _ => 0
def ra (M : mj_M) (o k i : Nat) : Int := match M (rr M o k) with
  | some c => rc c i
  | none => 0
def rgF (k : Nat) : Option (Int × Int) := match k with
  | 1 => some (0, 36000)
  | 2 => some (0, 300)
  | 14 => some (0, 400)
  | 15 => some (0, 400)
  | 16 => some (0, 400)
  | 18 => some (-128, 9999)
  | 19 => some (0, 4)
  | 24 => some (0, 6)
  | 27 => some (0, 20)
  | 32 => some (0, 12)
  | 49 => some (0, 12)
  | 51 => some (0, 600)
  | 53 => some (0, 40)
  | 70 => some (0, 200)
  | _ => none
def rgA (k : Nat) : Option (Int × Int) := match k with
  | 3 => some (0, 36000)
  | 4 => some ((-9), 10012)
  | 5 => some (0, 400)
  | 6 => some (0, 20)
  | 8 => some ((-1), 720)
  | 10 => some (0, 400)
  | 11 => some (0, 400)
  | 12 => some (0, 400)
  | 13 => some ((-128), 127)
  | 25 => some (0, 400)
  | 26 => some (0, 8)
  | 33 => some (0, 999)
  | 34 => some (0, 99999)
  | 35 => some (0, 1000000000000000)
  | 37 => some ((-1), 11)
  | 41 => some (0, 1000000)
  | 43 => some (0, 72)
  | 44 => some (0, 43)
  | 45 => some (0, 899)
  | 54 => some (0, 3)
  | 55 => some (0, 11)
  | _ => none
def rI (M : mj_M) (o : Nat) : Prop := (∀ (k : Nat) (lo hi : Int), rgF k = some (lo, hi) → lo ≤ rv M o k ∧ rv M o k ≤ hi) ∧ ∀ (k : Nat) (lo hi : Int), rgA k = some (lo, hi) → ∀ i, lo ≤ ra M o k i ∧ ra M o k i ≤ hi
/-- the rows that have a range are kept apart by their types -/
def rgK (k : Nat) : Bool := match (tm_FT 13)[k]? with
  | some (2, 1, e, _) => e / 8 == 20000 + k
  | _ => false
theorem rgA_K {k : Nat} {lo hi : Int} (h : rgA k = some (lo, hi)) : rgK k = true := by
  unfold rgA at h
  split at h <;> first | rfl | cases h
theorem tm_rv {M : mj_M} {o c k : Nat} {v : Int32} (h : tm_at M o c k (.int v)) : rv M o k = v.toInt := by
  obtain ⟨fs, e1, e2⟩ := h
  unfold rv
  rw [e1]
  simp only [e2]
theorem tm_rvL {M : mj_M} {o c k : Nat} {v : Int64} (h : tm_at M o c k (.long v)) : rv M o k = v.toInt := by
  obtain ⟨fs, e1, e2⟩ := h
  unfold rv
  rw [e1]
  simp only [e2]
theorem tm_rr {M : mj_M} {o c k b : Nat} (h : tm_at M o c k (.ref b)) : rr M o k = b := by
  obtain ⟨fs, e1, e2⟩ := h
  unfold rr
  rw [e1]
  simp only [e2]
theorem ra_of {M : mj_M} {o c k b : Nat} {c9 : mj_C} (h : tm_at M o c k (.ref b)) (hm : M b = some c9) (i : Nat) : ra M o k i = rc c9 i := by
  unfold ra
  rw [tm_rr h, hm]
theorem rI.f {M : mj_M} {o c k : Nat} {lo hi : Int} {v : Int32} (R : rI M o) (h : tm_at M o c k (.int v)) (hk : rgF k = some (lo, hi)) : lo ≤ v.toInt ∧ v.toInt ≤ hi := by
  have := R.1 k lo hi hk
  rw [tm_rv h] at this
  exact this
theorem rI.a {M : mj_M} {o k : Nat} {lo hi : Int} (R : rI M o) (hk : rgA k = some (lo, hi)) (i : Nat) : lo ≤ ra M o k i ∧ ra M o k i ≤ hi := R.2 k lo hi hk i
section MR
variable {g : mj_G} {l : Launch} {y : mj_Y} {d pc : Nat} {lv : List (Nat × Value)} {st : List Value} {M M0 : mj_M} {nx n0 kc ks x : Nat} {Q : Option Value → mj_M → Nat → Prop} {W : Nat → Bool} {T T0 : tm_H}
/-- behind what wrote nothing of the reference -/
theorem rv_call {FT : Nat → List tm_F} {M1 : mj_M} {n1 o k : Nat} (J : tm_I FT W x T M nx T0 M1 n1) (ho : T o = some (0, 13, 0)) (hm : ∃ fs, M o = some (.inr (13, fs))) (hW : W (1300 + k) = false) : rv M1 o k = rv M o k ∧ rr M1 o k = rr M o k := by
  obtain ⟨fs, hm⟩ := hm
  obtain ⟨fs1, e1, e2⟩ := J.2.2.2.2.2.2.1 o _ ho fs hm
  have e3 := e2 k hW
  refine ⟨?_, ?_⟩
  · unfold rv
    rw [e1, hm]
    simp only [e3]
  · unfold rr
    rw [e1, hm]
    simp only [e3]
theorem tm_13 (I : tm_I tm_FT W x T0 M0 n0 T M nx) {o k : Nat} (ho : T o = some (0, 13, 0)) (hk : rgK k = true) : ∃ (b e N : Nat), tm_at M o 13 k (.ref b) ∧ T b = some (1, e, N) ∧ e / 8 = 20000 + k := by
  unfold rgK at hk
  split at hk
  · rename_i e N h
    obtain ⟨b, h1, h2⟩ := tm_atR (z := (1, e, N)) I ho h
    exact ⟨b, e, N, h1, h2, of_decide_eq_true (by simpa using hk)⟩
  · cases hk
theorem ra_call {W1 : Nat → Bool} {x1 : Nat} {M1 : mj_M} {T1 : tm_H} {n1 o k : Nat} (I : tm_I tm_FT W x T0 M0 n0 T M nx) (J : tm_I tm_FT W1 x1 T M nx T1 M1 n1) (ho : T o = some (0, 13, 0)) (hk : rgK k = true) (hW : W1 (1300 + k) = false) (hW2 : W1 (20000 + k) = false) (i : Nat) : ra M1 o k i = ra M o k i := by
  obtain ⟨fs, hm, -⟩ := I.1 o _ ho
  obtain ⟨b, e, N, h1, h2, h3⟩ := tm_13 I ho hk
  have e5 := (rv_call J ho ⟨fs, hm⟩ hW).2
  have e6 : M1 b = M b := J.2.2.2.2.2.2.1 b _ h2 (by show W1 (e / 8) = false; rw [h3]; exact hW2)
  unfold ra
  rw [e5, tm_rr h1, e6]
theorem rI_call {W1 : Nat → Bool} {x1 : Nat} {M1 : mj_M} {T1 : tm_H} {n1 o : Nat} (I : tm_I tm_FT W x T0 M0 n0 T M nx) (J : tm_I tm_FT W1 x1 T M nx T1 M1 n1) (ho : T o = some (0, 13, 0)) (hW : ∀ k, k < 72 → W1 (1300 + k) = false) (hW2 : ∀ k, k < 72 → W1 (20000 + k) = false) (R : rI M o) : rI M1 o := by
  obtain ⟨fs, hm, -⟩ := I.1 o _ ho
  refine ⟨fun k lo hi hk => ?_, fun k lo hi hk i => ?_⟩
  · have h72 : k < 72 := by
      unfold rgF at hk
      split at hk <;> first | omega | cases hk
    rw [(rv_call J ho ⟨fs, hm⟩ (hW k h72)).1]
    exact R.1 k lo hi hk
  · have h72 : k < 72 := by
      unfold rgA at hk
      split at hk <;> first | omega | cases hk
    rw [ra_call I J ho (rgA_K hk) (hW k h72) (hW2 k h72)]
    exact R.2 k lo hi hk i
/-- a number of a value -/
def rn (v : Value) : Int := match v with
  | .int v => v.toInt
  | .long v => v.toInt
  | _ => 0
theorem rv_set {o k j : Nat} {fs : List Value} {v : Value} (hl : k < fs.length) (hm : M o = some (.inr (13, fs))) (hv : ∀ b, v ≠ .ref b) : rv (mj_up M o (.inr (13, fs.set k v))) o j = (if j = k then rn v else rv M o j) ∧ (j ≠ k → rr (mj_up M o (.inr (13, fs.set k v))) o j = rr M o j) := by
  refine ⟨?_, fun hj => ?_⟩
  · unfold rv
    rw [mj_up_self, hm]
    simp only
    by_cases h : j = k
    · subst h
      rw [if_pos rfl, List.getElem?_set_self hl]
      cases v <;> rfl
    · rw [if_neg h, List.getElem?_set_ne (Ne.symm h)]
  · unfold rr
    rw [mj_up_self, hm]
    simp only
    rw [List.getElem?_set_ne (Ne.symm hj)]
theorem ra_set {o k j : Nat} {fs : List Value} {v : Value} (hl : k < fs.length) (hm : M o = some (.inr (13, fs))) (hv : ∀ b, v ≠ .ref b) (hj : j ≠ k) (i : Nat) : ra (mj_up M o (.inr (13, fs.set k v))) o j i = ra M o j i := by
  unfold ra
  rw [(rv_set (j := j) hl hm hv).2 hj]
  by_cases h : rr M o j = o
  · rw [h, mj_up_self, hm]
    rfl
  · rw [mj_up_ne _ _ h]
/-- a number field is written -/
theorem tr_putR {index a k : Nat} {f : tm_F} {v : Value} {ty : FieldType} (I : tm_I tm_FT W x T0 M0 n0 T M nx) (R : rI M a) (ta : T a = some (0, 13, 0)) (hk : (tm_FT 13)[k]? = some f) (hv : tm_v T a f v) (hr : ∀ b, v ≠ .ref b) (hA : rgA k = none) (hb : ∀ lo hi, rgF k = some (lo, hi) → lo ≤ rn v ∧ rn v ≤ hi) (hW : W (100 * 13 + k) = true ∨ n0 ≤ a) (hd : decode y.2.1 pc = .ok (.putfield index, 3)) (hf : mj_fp y.1.cls index 13 k ty false) (hn : narrow ty v = v) (hfit : fits ty v = true) (kk : ∀ M1, tm_I tm_FT W x T0 M0 n0 T M1 nx → tm_at M1 a 13 k v → (∀ (b c9 k9 : Nat) (w : Value), (c9 == 13 && k9 == k) = false → tm_at M b c9 k9 w → tm_at M1 b c9 k9 w) → rI M1 a → (∀ j, j ≠ k → ∀ i, ra M1 a j i = ra M a j i) → (∀ j, j ≠ k → rv M1 a j = rv M a j) → mj_V g l y d (pc + 3) lv st M1 nx kc ks Q) : mj_V g l y d pc lv (v :: .ref a :: st) M nx kc ks Q := by
  obtain ⟨fs, hm, hfs⟩ := I.1 a _ ta
  have hlt : k < fs.length := by rw [hfs.1]; exact (List.getElem?_eq_some_iff.mp hk).1
  refine mv_put hd hf hm hlt hn hfit rfl (kk _ (I.put tm_okF ta hm hfs hk hv hW) ⟨_, mj_up_self _ _ _, List.getElem?_set_self hlt⟩ (fun b c9 k9 w h9 h => ?_) ⟨fun j lo hi hj => ?_, fun j lo hi hj i => ?_⟩ (fun j hj i => ra_set hlt hm hr hj i) (fun j hj => ?_))
  · obtain ⟨fs9, e1, e2⟩ := h
    by_cases e : b = a
    · subst e
      cases hm.symm.trans e1
      refine ⟨_, mj_up_self _ _ _, ?_⟩
      rw [List.getElem?_set_ne (fun h => by subst h; simp at h9)]
      exact e2
    · exact ⟨fs9, (mj_up_ne M _ e).trans e1, e2⟩
  · rw [(rv_set hlt hm hr).1]
    by_cases h : j = k
    · subst h
      rw [if_pos rfl]
      exact hb lo hi hj
    · rw [if_neg h]
      exact R.1 j lo hi hj
  · have h : j ≠ k := by
      intro h
      subst h
      rw [hA] at hj
      cases hj
    rw [ra_set hlt hm hr h]
    exact R.2 j lo hi hj i
  · rw [(rv_set hlt hm hr).1, if_neg hj]
/-- a row's element is written -/
theorem ra_st {o k a e N j : Nat} {c9 : mj_C} (I : tm_I tm_FT W x T0 M0 n0 T M nx) (to : T o = some (0, 13, 0)) (ta : T a = some (1, e, N)) (hq : tm_at M o 13 k (.ref a)) (he : e / 8 = 20000 + k) (i : Nat) : (rv (mj_up M a c9) o j = rv M o j) ∧ (ra (mj_up M a c9) o k i = rc c9 i) ∧ (j ≠ k → rgK j = true → ra (mj_up M a c9) o j i = ra M o j i) := by
  have hoa : o ≠ a := by
    intro h
    subst h
    cases to.symm.trans ta
  have e1 : mj_up M a c9 o = M o := mj_up_ne _ _ hoa
  refine ⟨?_, ?_, fun hj hK => ?_⟩
  · unfold rv
    rw [e1]
  · unfold ra
    have e2 : rr (mj_up M a c9) o k = a := by
      unfold rr
      rw [e1]
      exact tm_rr hq
    rw [e2, mj_up_self]
  · obtain ⟨b, e9, N9, h1, h2, h3⟩ := tm_13 I to hK
    have hba : b ≠ a := by
      intro h
      subst h
      cases h2.symm.trans ta
      omega
    unfold ra
    have e2 : rr (mj_up M a c9) o j = b := by
      unfold rr
      rw [e1]
      exact tm_rr h1
    rw [e2, mj_up_ne _ _ hba, tm_rr h1]
theorem rI_st {o k a e N : Nat} {c9 : mj_C} (I : tm_I tm_FT W x T0 M0 n0 T M nx) (R : rI M o) (to : T o = some (0, 13, 0)) (ta : T a = some (1, e, N)) (hq : tm_at M o 13 k (.ref a)) (he : e / 8 = 20000 + k) (hb : ∀ lo hi, rgA k = some (lo, hi) → ∀ i, lo ≤ rc c9 i ∧ rc c9 i ≤ hi) : rI (mj_up M a c9) o := by
  refine ⟨fun j lo hi hj => ?_, fun j lo hi hj i => ?_⟩
  · rw [(ra_st (j := j) I to ta hq he 0).1]
    exact R.1 j lo hi hj
  · by_cases h : j = k
    · subst h
      rw [(ra_st (j := j) I to ta hq he i).2.1]
      exact hb lo hi hj i
    · rw [(ra_st (j := j) I to ta hq he i).2.2 h (rgA_K hj)]
      exact R.2 j lo hi hj i
theorem tr_ialdR {o k a e N : Nat} {i : Int32} (I : tm_I tm_FT W x T0 M0 n0 T M nx) (hq : tm_at M o 13 k (.ref a)) (ta : T a = some (1, e, N)) (he : e % 8 = 0) (hd : decode y.2.1 pc = .ok (.iaload, 1)) (hin : vp_in i N) (kk : ∀ v : Int32, v.toInt = ra M o k i.toNatClampNeg → mj_V g l y d (pc + 1) lv (.int v :: st) M nx kc ks Q) : mj_V g l y d pc lv (.int i :: .ref a :: st) M nx kc ks Q := by
  obtain ⟨f, hm⟩ := tm_arrI I ta (by omega)
  have hm0 := hm
  rw [he] at hm
  exact mv_iald hd hm hin rfl (kk _ (by rw [ra_of hq hm0]; rfl))
theorem tr_laldR {o k a e N : Nat} {i : Int32} (I : tm_I tm_FT W x T0 M0 n0 T M nx) (hq : tm_at M o 13 k (.ref a)) (ta : T a = some (1, e, N)) (he : e % 8 = 1) (hd : decode y.2.1 pc = .ok (.laload, 1)) (hin : vp_in i N) (kk : ∀ v : Int64, v.toInt = ra M o k i.toNatClampNeg → mj_V g l y d (pc + 1) lv (.long v :: st) M nx kc ks Q) : mj_V g l y d pc lv (.int i :: .ref a :: st) M nx kc ks Q := by
  obtain ⟨f, hm⟩ := tm_arrL I ta he
  have hm0 := hm
  exact mv_lald hd hm hin rfl (kk _ (by rw [ra_of hq hm0]; rfl))
theorem tr_zaldR {o k a e N : Nat} {i : Int32} (I : tm_I tm_FT W x T0 M0 n0 T M nx) (hq : tm_at M o 13 k (.ref a)) (ta : T a = some (1, e, N)) (he : e % 8 = 2) (hd : decode y.2.1 pc = .ok (.baload, 1)) (hin : vp_in i N) (kk : ∀ v : Int32, v.toInt = ra M o k i.toNatClampNeg → mj_V g l y d (pc + 1) lv (.int v :: st) M nx kc ks Q) : mj_V g l y d pc lv (.int i :: .ref a :: st) M nx kc ks Q := by
  obtain ⟨f, hm⟩ := tm_arrI I ta (by omega)
  have hm0 := hm
  rw [he] at hm
  exact mv_zald hd hm hin rfl (kk _ (by rw [ra_of hq hm0]; rfl))
theorem tr_baldR {o k a e N : Nat} {i : Int32} (I : tm_I tm_FT W x T0 M0 n0 T M nx) (hq : tm_at M o 13 k (.ref a)) (ta : T a = some (1, e, N)) (he : e % 8 = 3) (hd : decode y.2.1 pc = .ok (.baload, 1)) (hin : vp_in i N) (kk : ∀ v : Int32, v.toInt = ra M o k i.toNatClampNeg → mj_V g l y d (pc + 1) lv (.int v :: st) M nx kc ks Q) : mj_V g l y d pc lv (.int i :: .ref a :: st) M nx kc ks Q := by
  obtain ⟨f, hm⟩ := tm_arrI I ta (by omega)
  have hm0 := hm
  rw [he] at hm
  exact mv_bald hd hm hin rfl (kk _ (by rw [ra_of hq hm0]; rfl))
theorem tr_iastR {o k a e N : Nat} {i : Int32} {v : Int32} (I : tm_I tm_FT W x T0 M0 n0 T M nx) (R : rI M o) (to : T o = some (0, 13, 0)) (hq : tm_at M o 13 k (.ref a)) (ta : T a = some (1, e, N)) (he : e % 8 = 0) (he2 : e / 8 = 20000 + k) (hb : ∀ lo hi, rgA k = some (lo, hi) → lo ≤ v.toInt ∧ v.toInt ≤ hi) (hW : W (e / 8) = true ∨ n0 ≤ a) (hd : decode y.2.1 pc = .ok (.iastore, 1)) (hin : vp_in i N) (kk : ∀ M1, tm_I tm_FT W x T0 M0 n0 T M1 nx → (∀ (b c k : Nat) (w : Value), tm_at M b c k w → tm_at M1 b c k w) → rI M1 o → (∀ j, ra M1 o k j = if j = i.toNatClampNeg then v.toInt else ra M o k j) → (∀ j, j ≠ k → rgK j = true → ∀ i, ra M1 o j i = ra M o j i) → (∀ j, rv M1 o j = rv M o j) → mj_V g l y d (pc + 1) lv st M1 nx kc ks Q) : mj_V g l y d pc lv (.int v :: .int i :: .ref a :: st) M nx kc ks Q := by
  obtain ⟨f, hm⟩ := tm_arrI I ta (by omega)
  have hm0 := hm
  rw [he] at hm
  have hra : ∀ j, ra M o k j = (f j).toInt := fun j => by rw [ra_of hq hm0]; rfl
  have hrc : ∀ j, ((upd f i.toNatClampNeg v) j).toInt = if j = i.toNatClampNeg then v.toInt else (f j).toInt := fun j => by
    unfold upd
    by_cases h : j = i.toNatClampNeg
    · rw [if_pos h, if_pos h]
    · rw [if_neg h, if_neg h]
  refine mv_iast hd hm hin rfl (kk _ (I.ast tm_okF ta hW (tm_c1 (by omega) (by rw [mj_up_self, he]))) (tm_at.ast hm0) (rI_st I R to ta hq he2 fun lo hi hk j => ?_) (fun j => ?_) (fun j hj hK j2 => (ra_st I to ta hq he2 j2).2.2 hj hK) (fun j => (ra_st I to ta hq he2 0).1))
  · show lo ≤ ((upd f i.toNatClampNeg v) j).toInt ∧ ((upd f i.toNatClampNeg v) j).toInt ≤ hi
    rw [hrc]
    by_cases h : j = i.toNatClampNeg
    · rw [if_pos h]
      exact hb lo hi hk
    · rw [if_neg h, ← hra]
      exact R.a hk j
  · rw [(ra_st (j := k) I to ta hq he2 j).2.1]
    show ((upd f i.toNatClampNeg v) j).toInt = _
    rw [hrc, hra]
theorem tr_lastR {o k a e N : Nat} {i : Int32} {v : Int64} (I : tm_I tm_FT W x T0 M0 n0 T M nx) (R : rI M o) (to : T o = some (0, 13, 0)) (hq : tm_at M o 13 k (.ref a)) (ta : T a = some (1, e, N)) (he : e % 8 = 1) (he2 : e / 8 = 20000 + k) (hb : ∀ lo hi, rgA k = some (lo, hi) → lo ≤ v.toInt ∧ v.toInt ≤ hi) (hW : W (e / 8) = true ∨ n0 ≤ a) (hd : decode y.2.1 pc = .ok (.lastore, 1)) (hin : vp_in i N) (kk : ∀ M1, tm_I tm_FT W x T0 M0 n0 T M1 nx → (∀ (b c k : Nat) (w : Value), tm_at M b c k w → tm_at M1 b c k w) → rI M1 o → (∀ j, ra M1 o k j = if j = i.toNatClampNeg then v.toInt else ra M o k j) → (∀ j, j ≠ k → rgK j = true → ∀ i, ra M1 o j i = ra M o j i) → (∀ j, rv M1 o j = rv M o j) → mj_V g l y d (pc + 1) lv st M1 nx kc ks Q) : mj_V g l y d pc lv (.long v :: .int i :: .ref a :: st) M nx kc ks Q := by
  obtain ⟨f, hm⟩ := tm_arrL I ta he
  have hm0 := hm
  have hra : ∀ j, ra M o k j = (f j).toInt := fun j => by rw [ra_of hq hm0]; rfl
  have hrc : ∀ j, ((vp_updL f i.toNatClampNeg v) j).toInt = if j = i.toNatClampNeg then v.toInt else (f j).toInt := fun j => by
    unfold vp_updL
    by_cases h : j = i.toNatClampNeg
    · rw [if_pos h, if_pos h]
    · rw [if_neg h, if_neg h]
  refine mv_last hd hm hin rfl (kk _ (I.ast tm_okF ta hW (tm_c1L he (by rw [mj_up_self]))) (tm_at.ast hm0) (rI_st I R to ta hq he2 fun lo hi hk j => ?_) (fun j => ?_) (fun j hj hK j2 => (ra_st I to ta hq he2 j2).2.2 hj hK) (fun j => (ra_st I to ta hq he2 0).1))
  · show lo ≤ ((vp_updL f i.toNatClampNeg v) j).toInt ∧ ((vp_updL f i.toNatClampNeg v) j).toInt ≤ hi
    rw [hrc]
    by_cases h : j = i.toNatClampNeg
    · rw [if_pos h]
      exact hb lo hi hk
    · rw [if_neg h, ← hra]
      exact R.a hk j
  · rw [(ra_st (j := k) I to ta hq he2 j).2.1]
    show ((vp_updL f i.toNatClampNeg v) j).toInt = _
    rw [hrc, hra]
theorem tr_zastR {o k a e N : Nat} {i : Int32} {v : Int32} (I : tm_I tm_FT W x T0 M0 n0 T M nx) (R : rI M o) (to : T o = some (0, 13, 0)) (hq : tm_at M o 13 k (.ref a)) (ta : T a = some (1, e, N)) (he : e % 8 = 2) (he2 : e / 8 = 20000 + k) (hA : rgA k = none) (hW : W (e / 8) = true ∨ n0 ≤ a) (hd : decode y.2.1 pc = .ok (.bastore, 1)) (hin : vp_in i N) (kk : ∀ M1, tm_I tm_FT W x T0 M0 n0 T M1 nx → (∀ (b c k : Nat) (w : Value), tm_at M b c k w → tm_at M1 b c k w) → rI M1 o → (∀ j, j ≠ k → rgK j = true → ∀ i, ra M1 o j i = ra M o j i) → (∀ j, rv M1 o j = rv M o j) → mj_V g l y d (pc + 1) lv st M1 nx kc ks Q) : mj_V g l y d pc lv (.int v :: .int i :: .ref a :: st) M nx kc ks Q := by
  obtain ⟨f, hm⟩ := tm_arrI I ta (by omega)
  have hm0 := hm
  rw [he] at hm
  exact mv_zast hd hm hin rfl (kk _ (I.ast tm_okF ta hW (tm_c1 (by omega) (by rw [mj_up_self, he]))) (tm_at.ast hm0) (rI_st I R to ta hq he2 fun lo hi hk j => by rw [hA] at hk; cases hk) (fun j hj hK j2 => (ra_st I to ta hq he2 j2).2.2 hj hK) (fun j => (ra_st I to ta hq he2 0).1))
theorem mz_nar9 (v : Int32) : -128 ≤ (vp_nar .byte v).toInt ∧ (vp_nar .byte v).toInt ≤ 127 := by
  show -128 ≤ (v.toInt8.toInt32).toInt ∧ (v.toInt8.toInt32).toInt ≤ 127
  rw [Int8.toInt_toInt32]
  have h1 := Int8.toInt_lt v.toInt8
  have h2 := Int8.le_toInt v.toInt8
  omega
theorem tr_bastR {o k a e N : Nat} {i : Int32} {v : Int32} (I : tm_I tm_FT W x T0 M0 n0 T M nx) (R : rI M o) (to : T o = some (0, 13, 0)) (hq : tm_at M o 13 k (.ref a)) (ta : T a = some (1, e, N)) (he : e % 8 = 3) (he2 : e / 8 = 20000 + k) (hb : ∀ lo hi, rgA k = some (lo, hi) → lo ≤ (vp_nar .byte v).toInt ∧ (vp_nar .byte v).toInt ≤ hi) (hW : W (e / 8) = true ∨ n0 ≤ a) (hd : decode y.2.1 pc = .ok (.bastore, 1)) (hin : vp_in i N) (kk : ∀ M1, tm_I tm_FT W x T0 M0 n0 T M1 nx → (∀ (b c k : Nat) (w : Value), tm_at M b c k w → tm_at M1 b c k w) → rI M1 o → (∀ j, j ≠ k → rgK j = true → ∀ i, ra M1 o j i = ra M o j i) → (∀ j, rv M1 o j = rv M o j) → mj_V g l y d (pc + 1) lv st M1 nx kc ks Q) : mj_V g l y d pc lv (.int v :: .int i :: .ref a :: st) M nx kc ks Q := by
  obtain ⟨f, hm⟩ := tm_arrI I ta (by omega)
  have hm0 := hm
  rw [he] at hm
  have hra : ∀ j, ra M o k j = (f j).toInt := fun j => by rw [ra_of hq hm0]; rfl
  refine mv_bast hd hm hin rfl (kk _ (I.ast tm_okF ta hW (tm_c1 (by omega) (by rw [mj_up_self, he]))) (tm_at.ast hm0) (rI_st I R to ta hq he2 fun lo hi hk j => ?_) (fun j hj hK j2 => (ra_st I to ta hq he2 j2).2.2 hj hK) (fun j => (ra_st I to ta hq he2 0).1))
  show lo ≤ ((upd f i.toNatClampNeg (vp_nar .byte v)) j).toInt ∧ ((upd f i.toNatClampNeg (vp_nar .byte v)) j).toInt ≤ hi
  unfold upd
  by_cases h : j = i.toNatClampNeg
  · rw [if_pos h]
    exact hb lo hi hk
  · rw [if_neg h, ← hra]
    exact R.a hk j
end MR
