/-! the typed machine's rules -/
section TR
variable {g : mj_G} {l : Launch} {y : mj_Y} {d pc : Nat} {lv : List (Nat × Value)} {st : List Value} {M M0 : mj_M} {nx n0 kc ks x : Nat} {Q : Option Value → mj_M → Nat → Prop} {FT : Nat → List tm_F} {W : Nat → Bool} {T T0 : tm_H}
theorem tr_getv {index a c k : Nat} {f : tm_F} (I : tm_I FT W x T0 M0 n0 T M nx) (ta : T a = some (0, c, 0)) (hk : (FT c)[k]? = some f) (hd : decode y.2.1 pc = .ok (.getfield index, 3)) (hf : mj_fl y.1.cls index c k) (kk : ∀ v, tm_v T a f v → mj_V g l y d (pc + 3) lv (v :: st) M nx kc ks Q) : mj_V g l y d pc lv (.ref a :: st) M nx kc ks Q := by
  obtain ⟨fs, hm, hfs⟩ := I.1 a _ ta
  obtain ⟨v, hv, hv9⟩ := hfs.2 k f hk
  exact mv_get hd hf hm hv (kk v hv9)
theorem tr_getI {index a c k : Nat} {z : tm_T} (I : tm_I FT W x T0 M0 n0 T M nx) (ta : T a = some (0, c, 0)) (hk : (FT c)[k]? = some (0, z)) (hd : decode y.2.1 pc = .ok (.getfield index, 3)) (hf : mj_fl y.1.cls index c k) (kk : ∀ v : Int32, mj_V g l y d (pc + 3) lv (.int v :: st) M nx kc ks Q) : mj_V g l y d pc lv (.ref a :: st) M nx kc ks Q :=
  tr_getv I ta hk hd hf fun v hv => by
    obtain ⟨i, rfl⟩ := hv
    exact kk i
theorem tr_getL {index a c k : Nat} {z : tm_T} (I : tm_I FT W x T0 M0 n0 T M nx) (ta : T a = some (0, c, 0)) (hk : (FT c)[k]? = some (1, z)) (hd : decode y.2.1 pc = .ok (.getfield index, 3)) (hf : mj_fl y.1.cls index c k) (kk : ∀ v : Int64, mj_V g l y d (pc + 3) lv (.long v :: st) M nx kc ks Q) : mj_V g l y d pc lv (.ref a :: st) M nx kc ks Q :=
  tr_getv I ta hk hd hf fun v hv => by
    obtain ⟨i, rfl⟩ := hv
    exact kk i
theorem tr_getR {index a c k : Nat} {z : tm_T} (I : tm_I FT W x T0 M0 n0 T M nx) (ta : T a = some (0, c, 0)) (hk : (FT c)[k]? = some (2, z)) (hd : decode y.2.1 pc = .ok (.getfield index, 3)) (hf : mj_fl y.1.cls index c k) (kk : ∀ b : Nat, T b = some z → mj_V g l y d (pc + 3) lv (.ref b :: st) M nx kc ks Q) : mj_V g l y d pc lv (.ref a :: st) M nx kc ks Q :=
  tr_getv I ta hk hd hf fun v hv => by
    obtain ⟨b, rfl, hb⟩ := hv
    exact kk b hb
theorem tr_getO {index a c k p q z9 : Nat} (I : tm_I FT W x T0 M0 n0 T M nx) (ta : T a = some (0, c, 0)) (hk : (FT c)[k]? = some (3, p, q, z9)) (hd : decode y.2.1 pc = .ok (.getfield index, 3)) (hf : mj_fl y.1.cls index c k) (kk : ∀ b : Nat, T b = some (p, q, a) → mj_V g l y d (pc + 3) lv (.ref b :: st) M nx kc ks Q) : mj_V g l y d pc lv (.ref a :: st) M nx kc ks Q :=
  tr_getv I ta hk hd hf fun v hv => by
    obtain ⟨b, rfl, hb⟩ := hv
    exact kk b hb
/-- a field written -/
theorem tm_I.put (hF : tm_ok FT) (I : tm_I FT W x T0 M0 n0 T M nx) {a c k : Nat} {f : tm_F} {fs : List Value} {v : Value} (ta : T a = some (0, c, 0)) (hm : M a = some (.inr (c, fs))) (hfs : tm_fs T a (FT c) fs) (hk : (FT c)[k]? = some f) (hv : tm_v T a f v) (hW : W (100 * c + k) = true ∨ n0 ≤ a) : tm_I FT W x T0 M0 n0 T (mj_up M a (.inr (c, fs.set k v))) nx := by
  refine I.wr hF ta (by show (0 : Nat) ≠ 4; decide) (fun b hb => mj_up_ne M _ hb) ⟨_, mj_up_self _ _ _, ?_, fun k9 f9 h9 => ?_⟩ ?_
  · rw [List.length_set]
    exact hfs.1
  · by_cases e : k9 = k
    · subst e
      cases hk.symm.trans h9
      refine ⟨v, ?_, hv⟩
      rw [List.getElem?_set_self (by rw [hfs.1]; exact (List.getElem?_eq_some_iff.mp hk).1)]
    · rw [List.getElem?_set_ne (fun h => e h.symm)]
      exact hfs.2 k9 f9 h9
  · rcases hW with hW | hW
    · refine Or.inl fun fs9 h9 => ⟨_, mj_up_self _ _ _, fun k9 hk9 => ?_⟩
      cases hm.symm.trans h9
      refine List.getElem?_set_ne fun h => ?_
      subst h
      rw [hW] at hk9
      cases hk9
    · exact Or.inr hW
theorem tr_putv {index a c k : Nat} {f : tm_F} {v : Value} {ty : FieldType} (hF : tm_ok FT) (I : tm_I FT W x T0 M0 n0 T M nx) (ta : T a = some (0, c, 0)) (hk : (FT c)[k]? = some f) (hv : tm_v T a f v) (hW : W (100 * c + k) = true ∨ n0 ≤ a) (hd : decode y.2.1 pc = .ok (.putfield index, 3)) (hf : mj_fp y.1.cls index c k ty false) (hn : narrow ty v = v) (hfit : fits ty v = true) (kk : ∀ M1, tm_I FT W x T0 M0 n0 T M1 nx → mj_V g l y d (pc + 3) lv st M1 nx kc ks Q) : mj_V g l y d pc lv (v :: .ref a :: st) M nx kc ks Q := by
  obtain ⟨fs, hm, hfs⟩ := I.1 a _ ta
  exact mv_put hd hf hm (by rw [hfs.1]; exact (List.getElem?_eq_some_iff.mp hk).1) hn hfit rfl (kk _ (I.put hF ta hm hfs hk hv hW))
/-- arrays -/
theorem tm_arrI {a e N : Nat} (I : tm_I FT W x T0 M0 n0 T M nx) (ta : T a = some (1, e, N)) (he : e % 8 ≠ 1) : ∃ f, M a = some (.inl (e % 8, N, .inl f)) := by
  have h := I.1 a _ ta
  unfold tm_c at h
  simp only at h
  exact h
theorem tm_arrL {a e N : Nat} (I : tm_I FT W x T0 M0 n0 T M nx) (ta : T a = some (1, e, N)) (he : e % 8 = 1) : ∃ f, M a = some (.inl (1, N, .inr (.inl f))) := by
  have h := I.1 a _ ta
  unfold tm_c at h
  simp only at h
  split at h
  · exact h
  · next h9 => exact absurd he h9
theorem tm_I.ast (hF : tm_ok FT) (I : tm_I FT W x T0 M0 n0 T M nx) {a e N : Nat} {c9 : mj_C} (ta : T a = some (1, e, N)) (hW : W (e / 8) = true ∨ n0 ≤ a) (hc : tm_c FT T (mj_up M a c9) a (1, e, N)) : tm_I FT W x T0 M0 n0 T (mj_up M a c9) nx := by
  refine I.wr hF ta (by show (1 : Nat) ≠ 4; decide) (fun b hb => mj_up_ne M _ hb) hc ?_
  rcases hW with hW | hW
  · exact Or.inl fun h => by rw [show (1, e, N).2.1 / 8 = e / 8 from rfl, hW] at h; cases h
  · exact Or.inr hW
theorem tr_iald {a e N : Nat} {i : Int32} (I : tm_I FT W x T0 M0 n0 T M nx) (ta : T a = some (1, e, N)) (he : e % 8 = 0) (hd : decode y.2.1 pc = .ok (.iaload, 1)) (hin : vp_in i N) (kk : ∀ v : Int32, mj_V g l y d (pc + 1) lv (.int v :: st) M nx kc ks Q) : mj_V g l y d pc lv (.int i :: .ref a :: st) M nx kc ks Q := by
  obtain ⟨f, hm⟩ := tm_arrI I ta (by omega)
  rw [he] at hm
  exact mv_iald hd hm hin rfl (kk _)
theorem tr_lald {a e N : Nat} {i : Int32} (I : tm_I FT W x T0 M0 n0 T M nx) (ta : T a = some (1, e, N)) (he : e % 8 = 1) (hd : decode y.2.1 pc = .ok (.laload, 1)) (hin : vp_in i N) (kk : ∀ v : Int64, mj_V g l y d (pc + 1) lv (.long v :: st) M nx kc ks Q) : mj_V g l y d pc lv (.int i :: .ref a :: st) M nx kc ks Q := by
  obtain ⟨f, hm⟩ := tm_arrL I ta he
  exact mv_lald hd hm hin rfl (kk _)
theorem tr_zald {a e N : Nat} {i : Int32} (I : tm_I FT W x T0 M0 n0 T M nx) (ta : T a = some (1, e, N)) (he : e % 8 = 2) (hd : decode y.2.1 pc = .ok (.baload, 1)) (hin : vp_in i N) (kk : ∀ v : Int32, mj_V g l y d (pc + 1) lv (.int v :: st) M nx kc ks Q) : mj_V g l y d pc lv (.int i :: .ref a :: st) M nx kc ks Q := by
  obtain ⟨f, hm⟩ := tm_arrI I ta (by omega)
  rw [he] at hm
  exact mv_zald hd hm hin rfl (kk _)
theorem tr_bald {a e N : Nat} {i : Int32} (I : tm_I FT W x T0 M0 n0 T M nx) (ta : T a = some (1, e, N)) (he : e % 8 = 3) (hd : decode y.2.1 pc = .ok (.baload, 1)) (hin : vp_in i N) (kk : ∀ v : Int32, mj_V g l y d (pc + 1) lv (.int v :: st) M nx kc ks Q) : mj_V g l y d pc lv (.int i :: .ref a :: st) M nx kc ks Q := by
  obtain ⟨f, hm⟩ := tm_arrI I ta (by omega)
  rw [he] at hm
  exact mv_bald hd hm hin rfl (kk _)
theorem tm_c1 {a e N : Nat} {M1 : mj_M} {f : Nat → Int32} (he : e % 8 ≠ 1) (h : M1 a = some (.inl (e % 8, N, .inl f))) : tm_c FT T M1 a (1, e, N) := by
  unfold tm_c
  simp only
  exact ⟨f, h⟩
theorem tm_c1L {a e N : Nat} {M1 : mj_M} {f : Nat → Int64} (he : e % 8 = 1) (h : M1 a = some (.inl (1, N, .inr (.inl f)))) : tm_c FT T M1 a (1, e, N) := by
  unfold tm_c
  simp only
  split
  · exact ⟨f, h⟩
  · next h9 => exact absurd he h9
theorem tr_iast {a e N : Nat} {i v : Int32} (hF : tm_ok FT) (I : tm_I FT W x T0 M0 n0 T M nx) (ta : T a = some (1, e, N)) (he : e % 8 = 0) (hW : W (e / 8) = true ∨ n0 ≤ a) (hd : decode y.2.1 pc = .ok (.iastore, 1)) (hin : vp_in i N) (kk : ∀ M1, tm_I FT W x T0 M0 n0 T M1 nx → mj_V g l y d (pc + 1) lv st M1 nx kc ks Q) : mj_V g l y d pc lv (.int v :: .int i :: .ref a :: st) M nx kc ks Q := by
  obtain ⟨f, hm⟩ := tm_arrI I ta (by omega)
  rw [he] at hm
  exact mv_iast hd hm hin rfl (kk _ (I.ast hF ta hW (tm_c1 (by omega) (by rw [mj_up_self, he]))))
theorem tr_last {a e N : Nat} {i : Int32} {v : Int64} (hF : tm_ok FT) (I : tm_I FT W x T0 M0 n0 T M nx) (ta : T a = some (1, e, N)) (he : e % 8 = 1) (hW : W (e / 8) = true ∨ n0 ≤ a) (hd : decode y.2.1 pc = .ok (.lastore, 1)) (hin : vp_in i N) (kk : ∀ M1, tm_I FT W x T0 M0 n0 T M1 nx → mj_V g l y d (pc + 1) lv st M1 nx kc ks Q) : mj_V g l y d pc lv (.long v :: .int i :: .ref a :: st) M nx kc ks Q := by
  obtain ⟨f, hm⟩ := tm_arrL I ta he
  exact mv_last hd hm hin rfl (kk _ (I.ast hF ta hW (tm_c1L he (by rw [mj_up_self]))))
theorem tr_zast {a e N : Nat} {i v : Int32} (hF : tm_ok FT) (I : tm_I FT W x T0 M0 n0 T M nx) (ta : T a = some (1, e, N)) (he : e % 8 = 2) (hW : W (e / 8) = true ∨ n0 ≤ a) (hd : decode y.2.1 pc = .ok (.bastore, 1)) (hin : vp_in i N) (kk : ∀ M1, tm_I FT W x T0 M0 n0 T M1 nx → mj_V g l y d (pc + 1) lv st M1 nx kc ks Q) : mj_V g l y d pc lv (.int v :: .int i :: .ref a :: st) M nx kc ks Q := by
  obtain ⟨f, hm⟩ := tm_arrI I ta (by omega)
  rw [he] at hm
  exact mv_zast hd hm hin rfl (kk _ (I.ast hF ta hW (tm_c1 (by omega) (by rw [mj_up_self, he]))))
theorem tr_bast {a e N : Nat} {i v : Int32} (hF : tm_ok FT) (I : tm_I FT W x T0 M0 n0 T M nx) (ta : T a = some (1, e, N)) (he : e % 8 = 3) (hW : W (e / 8) = true ∨ n0 ≤ a) (hd : decode y.2.1 pc = .ok (.bastore, 1)) (hin : vp_in i N) (kk : ∀ M1, tm_I FT W x T0 M0 n0 T M1 nx → mj_V g l y d (pc + 1) lv st M1 nx kc ks Q) : mj_V g l y d pc lv (.int v :: .int i :: .ref a :: st) M nx kc ks Q := by
  obtain ⟨f, hm⟩ := tm_arrI I ta (by omega)
  rw [he] at hm
  exact mv_bast hd hm hin rfl (kk _ (I.ast hF ta hW (tm_c1 (by omega) (by rw [mj_up_self, he]))))
theorem tr_alen {a e N : Nat} {v : Int32} (I : tm_I FT W x T0 M0 n0 T M nx) (ta : T a = some (1, e, N)) (he : e % 8 < 5) (hv : Int32.ofNat N = v) (hd : decode y.2.1 pc = .ok (.arraylength, 1)) (kk : mj_V g l y d (pc + 1) lv (.int v :: st) M nx kc ks Q) : mj_V g l y d pc lv (.ref a :: st) M nx kc ks Q := by
  by_cases h : e % 8 = 1
  · obtain ⟨f, hm⟩ := tm_arrL I ta h
    exact mv_alen hd hm (by decide) hv kk
  · obtain ⟨f, hm⟩ := tm_arrI I ta h
    exact mv_alen hd hm he hv kk
/-- the contract of a method over typed memory: effects W, the object under way x, what it makes (cells kc, slots ks) -/
def tm_Met (FT : Nat → List tm_F) (g : mj_G) (l : Launch) (y : mj_Y) (d : Nat) (As : List Value) (W : Nat → Bool) (x : Nat) (T : tm_H) (M : mj_M) (n kc ks : Nat) (P : Option Value → tm_H → mj_M → Prop) : Prop := mj_Met g l y d As M n kc ks (tm_Q FT W x T M n P)
/-- one of a type of its own is made -/
theorem tm_I.raw (hF : tm_ok FT) (I : tm_I FT W x T0 M0 n0 T M nx) (c : Nat) (c9 : mj_C) : tm_I FT W x T0 M0 n0 (fun b => if b = nx then some (5, c, 0) else T b) (mj_up M nx c9) (nx + 1) := by
  refine I.at hF (fun b hb => if_neg hb) (if_pos rfl) (fun b hb => mj_up_ne M _ hb) (Nat.le_succ _) (Nat.lt_succ_self _) I.2.2.2.1 (fun t ht => ?_) trivial
  have := (I.2.1 _ _ ht).2
  omega
theorem tm_I.arr (hF : tm_ok FT) (I : tm_I FT W x T0 M0 n0 T M nx) {e N : Nat} {c9 : mj_C} (hc : ∀ (T1 : tm_H), tm_c FT T1 (mj_up M nx c9) nx (1, e, N)) : tm_I FT W x T0 M0 n0 (fun b => if b = nx then some (1, e, N) else T b) (mj_up M nx c9) (nx + 1) := by
  refine I.at hF (fun b hb => if_neg hb) (if_pos rfl) (fun b hb => mj_up_ne M _ hb) (Nat.le_succ _) (Nat.lt_succ_self _) I.2.2.2.1 (fun t ht => ?_) (hc _)
  have := (I.2.1 _ _ ht).2
  omega
/-- the object under way is written -/
theorem tm_I.putx (hF : tm_ok FT) (I : tm_I FT W x T0 M0 n0 T M nx) {a c : Nat} (c9 : mj_C) (ta : T a = some (5, c, 0)) (hx : a = x ∨ n0 ≤ a) : tm_I FT W x T0 M0 n0 T (mj_up M a c9) nx := by
  refine I.wr hF ta (by show (5 : Nat) ≠ 4; decide) (fun b hb => mj_up_ne M _ hb) trivial ?_
  rcases hx with rfl | hx
  · exact Or.inl fun h => absurd rfl h
  · exact Or.inr hx
/-- the object is done -/
theorem tm_I.seal (hF : tm_ok FT) (I : tm_I FT W x T0 M0 n0 T M nx) {a c : Nat} {t : tm_T} (ta : T a = some (5, c, 0)) (h0 : n0 ≤ a) (hc : ∀ T1 : tm_H, (∀ b t, T b = some t → t.1 < 5 → T1 b = some t) → T1 a = some t → tm_c FT T1 M a t) : tm_I FT W x T0 M0 n0 (fun b => if b = a then some t else T b) M nx := by
  refine I.at hF (fun b hb => if_neg hb) (if_pos rfl) (fun b hb => rfl) (Nat.le_refl _) (I.2.1 _ _ ta).2 h0 (fun t ht => ?_) (hc _ (fun b t hb ht => ?_) (if_pos rfl))
  · cases ta.symm.trans ht
    exact Nat.le_refl 5
  · have e : b ≠ a := fun e => by
      subst e
      cases ta.symm.trans hb
      exact absurd ht (Nat.lt_irrefl 5)
    exact (if_neg e).trans hb
/-- what a field holds now -/
def tm_at (M : mj_M) (a c k : Nat) (v : Value) : Prop := ∃ fs, M a = some (.inr (c, fs)) ∧ fs[k]? = some v
theorem tr_getK {index a c k : Nat} {v : Value} (h : tm_at M a c k v) (hd : decode y.2.1 pc = .ok (.getfield index, 3)) (hf : mj_fl y.1.cls index c k) (kk : mj_V g l y d (pc + 3) lv (v :: st) M nx kc ks Q) : mj_V g l y d pc lv (.ref a :: st) M nx kc ks Q := by
  obtain ⟨fs, hm, hv⟩ := h
  exact mv_get hd hf hm hv kk
theorem tm_atv {a c k : Nat} {f : tm_F} (I : tm_I FT W x T0 M0 n0 T M nx) (ta : T a = some (0, c, 0)) (hk : (FT c)[k]? = some f) : ∃ v, tm_at M a c k v ∧ tm_v T a f v := by
  obtain ⟨fs, hm, hfs⟩ := I.1 a _ ta
  obtain ⟨v, hv, hv9⟩ := hfs.2 k f hk
  exact ⟨v, ⟨fs, hm, hv⟩, hv9⟩
theorem tm_atI {a c k : Nat} {z : tm_T} (I : tm_I FT W x T0 M0 n0 T M nx) (ta : T a = some (0, c, 0)) (hk : (FT c)[k]? = some (0, z)) : ∃ v : Int32, tm_at M a c k (.int v) := by
  obtain ⟨v, h, i, rfl⟩ := tm_atv I ta hk
  exact ⟨i, h⟩
theorem tm_atL {a c k : Nat} {z : tm_T} (I : tm_I FT W x T0 M0 n0 T M nx) (ta : T a = some (0, c, 0)) (hk : (FT c)[k]? = some (1, z)) : ∃ v : Int64, tm_at M a c k (.long v) := by
  obtain ⟨v, h, i, rfl⟩ := tm_atv I ta hk
  exact ⟨i, h⟩
theorem tm_atR {a c k : Nat} {z : tm_T} (I : tm_I FT W x T0 M0 n0 T M nx) (ta : T a = some (0, c, 0)) (hk : (FT c)[k]? = some (2, z)) : ∃ b : Nat, tm_at M a c k (.ref b) ∧ T b = some z := by
  obtain ⟨v, h, b, rfl, hb⟩ := tm_atv I ta hk
  exact ⟨b, h, hb⟩
theorem tm_atO {a c k p q z9 : Nat} (I : tm_I FT W x T0 M0 n0 T M nx) (ta : T a = some (0, c, 0)) (hk : (FT c)[k]? = some (3, p, q, z9)) : ∃ b : Nat, tm_at M a c k (.ref b) ∧ T b = some (p, q, a) := by
  obtain ⟨v, h, b, rfl, hb⟩ := tm_atv I ta hk
  exact ⟨b, h, hb⟩
/-- a field is written: it holds that, the others what they held -/
theorem tr_putK {index a c k : Nat} {f : tm_F} {v : Value} {ty : FieldType} (hF : tm_ok FT) (I : tm_I FT W x T0 M0 n0 T M nx) (ta : T a = some (0, c, 0)) (hk : (FT c)[k]? = some f) (hv : tm_v T a f v) (hW : W (100 * c + k) = true ∨ n0 ≤ a) (hd : decode y.2.1 pc = .ok (.putfield index, 3)) (hf : mj_fp y.1.cls index c k ty false) (hn : narrow ty v = v) (hfit : fits ty v = true) (kk : ∀ M1, tm_I FT W x T0 M0 n0 T M1 nx → tm_at M1 a c k v → (∀ (b c9 k9 : Nat) (w : Value), (c9 == c && k9 == k) = false → tm_at M b c9 k9 w → tm_at M1 b c9 k9 w) → mj_V g l y d (pc + 3) lv st M1 nx kc ks Q) : mj_V g l y d pc lv (v :: .ref a :: st) M nx kc ks Q := by
  obtain ⟨fs, hm, hfs⟩ := I.1 a _ ta
  have hlt : k < fs.length := by rw [hfs.1]; exact (List.getElem?_eq_some_iff.mp hk).1
  refine mv_put hd hf hm hlt hn hfit rfl (kk _ (I.put hF ta hm hfs hk hv hW) ⟨_, mj_up_self _ _ _, List.getElem?_set_self hlt⟩ fun b c9 k9 w h9 h => ?_)
  obtain ⟨fs9, e1, e2⟩ := h
  by_cases e : b = a
  · subst e
    cases hm.symm.trans e1
    refine ⟨_, mj_up_self _ _ _, ?_⟩
    rw [List.getElem?_set_ne (fun h => by subst h; simp at h9)]
    exact e2
  · exact ⟨fs9, (mj_up_ne M _ e).trans e1, e2⟩
/-- a cell that is no object's is written: fields hold what they held -/
theorem tm_at.ast {a : Nat} {c9 : mj_C} {z : Nat × vp_A} (hm : M a = some (.inl z)) (b c k : Nat) (w : Value) (h : tm_at M b c k w) : tm_at (mj_up M a c9) b c k w := by
  obtain ⟨fs, e1, e2⟩ := h
  refine ⟨fs, (mj_up_ne M _ fun e => ?_).trans e1, e2⟩
  subst e
  cases hm.symm.trans e1
theorem tr_iastK {a e N : Nat} {i v : Int32} (hF : tm_ok FT) (I : tm_I FT W x T0 M0 n0 T M nx) (ta : T a = some (1, e, N)) (he : e % 8 = 0) (hW : W (e / 8) = true ∨ n0 ≤ a) (hd : decode y.2.1 pc = .ok (.iastore, 1)) (hin : vp_in i N) (kk : ∀ M1, tm_I FT W x T0 M0 n0 T M1 nx → (∀ (b c k : Nat) (w : Value), tm_at M b c k w → tm_at M1 b c k w) → mj_V g l y d (pc + 1) lv st M1 nx kc ks Q) : mj_V g l y d pc lv (.int v :: .int i :: .ref a :: st) M nx kc ks Q := by
  obtain ⟨f, hm⟩ := tm_arrI I ta (by omega)
  have hm0 := hm
  rw [he] at hm
  exact mv_iast hd hm hin rfl (kk _ (I.ast hF ta hW (tm_c1 (by omega) (by rw [mj_up_self, he]))) (tm_at.ast hm0))
theorem tr_lastK {a e N : Nat} {i : Int32} {v : Int64} (hF : tm_ok FT) (I : tm_I FT W x T0 M0 n0 T M nx) (ta : T a = some (1, e, N)) (he : e % 8 = 1) (hW : W (e / 8) = true ∨ n0 ≤ a) (hd : decode y.2.1 pc = .ok (.lastore, 1)) (hin : vp_in i N) (kk : ∀ M1, tm_I FT W x T0 M0 n0 T M1 nx → (∀ (b c k : Nat) (w : Value), tm_at M b c k w → tm_at M1 b c k w) → mj_V g l y d (pc + 1) lv st M1 nx kc ks Q) : mj_V g l y d pc lv (.long v :: .int i :: .ref a :: st) M nx kc ks Q := by
  obtain ⟨f, hm⟩ := tm_arrL I ta he
  exact mv_last hd hm hin rfl (kk _ (I.ast hF ta hW (tm_c1L he (by rw [mj_up_self]))) (tm_at.ast hm))
theorem tr_zastK {a e N : Nat} {i v : Int32} (hF : tm_ok FT) (I : tm_I FT W x T0 M0 n0 T M nx) (ta : T a = some (1, e, N)) (he : e % 8 = 2) (hW : W (e / 8) = true ∨ n0 ≤ a) (hd : decode y.2.1 pc = .ok (.bastore, 1)) (hin : vp_in i N) (kk : ∀ M1, tm_I FT W x T0 M0 n0 T M1 nx → (∀ (b c k : Nat) (w : Value), tm_at M b c k w → tm_at M1 b c k w) → mj_V g l y d (pc + 1) lv st M1 nx kc ks Q) : mj_V g l y d pc lv (.int v :: .int i :: .ref a :: st) M nx kc ks Q := by
  obtain ⟨f, hm⟩ := tm_arrI I ta (by omega)
  have hm0 := hm
  rw [he] at hm
  exact mv_zast hd hm hin rfl (kk _ (I.ast hF ta hW (tm_c1 (by omega) (by rw [mj_up_self, he]))) (tm_at.ast hm0))
theorem tr_bastK {a e N : Nat} {i v : Int32} (hF : tm_ok FT) (I : tm_I FT W x T0 M0 n0 T M nx) (ta : T a = some (1, e, N)) (he : e % 8 = 3) (hW : W (e / 8) = true ∨ n0 ≤ a) (hd : decode y.2.1 pc = .ok (.bastore, 1)) (hin : vp_in i N) (kk : ∀ M1, tm_I FT W x T0 M0 n0 T M1 nx → (∀ (b c k : Nat) (w : Value), tm_at M b c k w → tm_at M1 b c k w) → mj_V g l y d (pc + 1) lv st M1 nx kc ks Q) : mj_V g l y d pc lv (.int v :: .int i :: .ref a :: st) M nx kc ks Q := by
  obtain ⟨f, hm⟩ := tm_arrI I ta (by omega)
  have hm0 := hm
  rw [he] at hm
  exact mv_bast hd hm hin rfl (kk _ (I.ast hF ta hW (tm_c1 (by omega) (by rw [mj_up_self, he]))) (tm_at.ast hm0))
/-- behind a call, a field that it doesn't write holds what it held -/
theorem tm_I.keep (J : tm_I FT W x T0 M0 n0 T M nx) {b c k : Nat} {w : Value} (tb : T0 b = some (0, c, 0)) (hW : W (100 * c + k) = false) (h : tm_at M0 b c k w) : tm_at M b c k w := by
  obtain ⟨fs, e1, e2⟩ := h
  obtain ⟨fs1, e3, e4⟩ := J.2.2.2.2.2.2.1 b _ tb fs e1
  exact ⟨fs1, e3, (e4 k hW).trans e2⟩
theorem mz_leq {x y0 : Int64} {a b : Int} (ha : x.toInt = a) (hb : y0.toInt = b) : lg_cmp x y0 = 0 ↔ a = b := by
  subst ha hb
  unfold lg_cmp
  by_cases h1 : x > y0
  · rw [if_pos h1]
    rw [gt_iff_lt, Int64.lt_iff_toInt_lt] at h1
    exact ⟨fun h => absurd h (by decide), fun h => by omega⟩
  · rw [if_neg h1]
    by_cases h2 : x = y0
    · rw [if_pos h2]
      exact ⟨fun _ => by rw [h2], fun _ => rfl⟩
    · rw [if_neg h2]
      exact ⟨fun h => absurd h (by decide), fun h => absurd (Int64.toInt_inj.mp h) h2⟩
theorem mv_leqZ {x y0 : Int64} {a b : Int} {off : Int} {tgt : Nat} (hd1 : decode y.2.1 pc = .ok (.lcmp, 1)) (hd : decode y.2.1 (pc + 1) = .ok (.ifCond .eq off, 3)) (ht : ((pc + 1 : Nat) : Int) + off = (tgt : Int)) (ha : x.toInt = a) (hb : y0.toInt = b) (kt : a = b → mj_V g l y d tgt lv st M nx kc ks Q) (kf : ¬ a = b → mj_V g l y d (pc + 4) lv st M nx kc ks Q) : mj_V g l y d pc lv (.long y0 :: .long x :: st) M nx kc ks Q := mv_lcmp hd1 (mv_if_eq hd ht (fun z => kt ((mz_leq ha hb).mp z)) (fun z => kf (fun q => z ((mz_leq ha hb).mpr q))))
theorem mv_lneZ {x y0 : Int64} {a b : Int} {off : Int} {tgt : Nat} (hd1 : decode y.2.1 pc = .ok (.lcmp, 1)) (hd : decode y.2.1 (pc + 1) = .ok (.ifCond .ne off, 3)) (ht : ((pc + 1 : Nat) : Int) + off = (tgt : Int)) (ha : x.toInt = a) (hb : y0.toInt = b) (kt : ¬ a = b → mj_V g l y d tgt lv st M nx kc ks Q) (kf : a = b → mj_V g l y d (pc + 4) lv st M nx kc ks Q) : mj_V g l y d pc lv (.long y0 :: .long x :: st) M nx kc ks Q := mv_lcmp hd1 (mv_if_ne hd ht (fun z => kt (fun q => z ((mz_leq ha hb).mpr q))) (fun z => kf ((mz_leq ha hb).mp z)))
theorem mz_nb {v : Int32} (h0 : 0 ≤ v.toInt) (h1 : v.toInt ≤ 1) : narrow .boolean (.int v) = .int v := by
  rcases (show v.toInt = 0 ∨ v.toInt = 1 by omega) with h | h
  · have e : v = 0 := Int32.toInt_inj.mp h
    subst e
    decide
  · have e : v = 1 := Int32.toInt_inj.mp h
    subst e
    decide
/-- a cast to the object's own class -/
theorem mv_castS {index a ci : Nat} {fs : List Value} {C : String} {T9 : u_T} {N : Nat} (hd : decode y.2.1 pc = .ok (.checkcast index, 3)) (hw : Cond.classLink y.1.cls index C ∈ mj_T) (hM : M a = some (.inr (ci, fs))) (hc : kcl[ci]? = some (C, T9, N)) (kk : mj_V g l y d (pc + 3) lv (.ref a :: st) M nx kc ks Q) : mj_V g l y d pc lv (.ref a :: st) M nx kc ks Q := by
  intro p e R s m args below meth c H locs ls cells slots TC TS X hR hS hl h1 h2 h3 h4
  obtain ⟨hx, hb, hml, hr, hlk, hown, hnm, hts, hK, hZ, hfr, hlo, hg0⟩ := id X
  exact va_castS hx hb hown (hts _ hw) (hK.1 ci _ hc).2 (va_recv hK (mj_one (hR.1 a _ hM).2.2) hc (q0 := 0) rfl) hd (kk p e R s m args below meth c H locs ls cells slots TC TS X hR hS hl h1 h2 h3 h4)
/-- two references compared: addresses from 64 on are apart in the heap when they are apart here -/
theorem mv_acmp_eqR {a b : Nat} {off : Int} {tgt : Nat} (hd : decode y.2.1 pc = .ok (.if_acmp .eq off, 3)) (ht : (pc : Int) + off = (tgt : Int)) (ha : 64 ≤ a) (hb9 : 64 ≤ b) (kt : a = b → mj_V g l y d tgt lv st M nx kc ks Q) (kf : ¬ a = b → mj_V g l y d (pc + 3) lv st M nx kc ks Q) : mj_V g l y d pc lv (.ref b :: .ref a :: st) M nx kc ks Q := by
  intro p e R s m args below meth c H locs ls cells slots TC TS X hR hS hl h1 h2 h3 h4
  refine W.eq (g2 := F0 m pc ls (va_rf (some (mj_r g b)) :: va_rf (some (mj_r g a)) :: st.map (mj_v g))) rfl ?_
  refine lv_acmp_eq X.1 X.2.1 hd ht (fun z => ?_) (fun z => ?_)
  · by_cases h : a = b
    · exact kt h p e R s m args below meth c H locs ls cells slots TC TS X hR hS hl h1 h2 h3 h4
    · exact absurd (Option.some.inj z) (mj_r_ne ha hb9 h)
  · exact kf (fun h => z (by rw [h])) p e R s m args below meth c H locs ls cells slots TC TS X hR hS hl h1 h2 h3 h4
theorem mv_acmp_neR {a b : Nat} {off : Int} {tgt : Nat} (hd : decode y.2.1 pc = .ok (.if_acmp .ne off, 3)) (ht : (pc : Int) + off = (tgt : Int)) (ha : 64 ≤ a) (hb9 : 64 ≤ b) (kt : ¬ a = b → mj_V g l y d tgt lv st M nx kc ks Q) (kf : a = b → mj_V g l y d (pc + 3) lv st M nx kc ks Q) : mj_V g l y d pc lv (.ref b :: .ref a :: st) M nx kc ks Q := by
  intro p e R s m args below meth c H locs ls cells slots TC TS X hR hS hl h1 h2 h3 h4
  refine W.eq (g2 := F0 m pc ls (va_rf (some (mj_r g b)) :: va_rf (some (mj_r g a)) :: st.map (mj_v g))) rfl ?_
  refine lv_acmp_ne X.1 X.2.1 hd ht (fun z => ?_) (fun z => ?_)
  · exact kt (fun h => z (by rw [h])) p e R s m args below meth c H locs ls cells slots TC TS X hR hS hl h1 h2 h3 h4
  · by_cases h : a = b
    · exact kf h p e R s m args below meth c H locs ls cells slots TC TS X hR hS hl h1 h2 h3 h4
    · exact absurd (Option.some.inj z) (mj_r_ne ha hb9 h)
end TR
