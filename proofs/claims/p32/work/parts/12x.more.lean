section TX
variable {g : mj_G} {l : Launch} {y : mj_Y} {d pc : Nat} {lv : List (Nat × Value)} {st : List Value} {M M0 : mj_M} {nx n0 kc ks x : Nat} {Q : Option Value → mj_M → Nat → Prop} {FT : Nat → List tm_F} {W : Nat → Bool} {T T0 : tm_H}
theorem mz_fz {v : Int32} (h0 : 0 ≤ v.toInt) (h1 : v.toInt ≤ 1) : fits .boolean (.int v) = true := by
  rcases (show v.toInt = 0 ∨ v.toInt = 1 by omega) with h | h
  · have e : v = 0 := Int32.toInt_inj.mp h
    subst e
    decide
  · have e : v = 1 := Int32.toInt_inj.mp h
    subst e
    decide
theorem tr_iastX {a e N : Nat} {i v : Int32} (hF : tm_ok FT) (I : tm_I FT W x T0 M0 n0 T M nx) (ta : T a = some (1, e, N)) (he : e % 8 = 0) (hW : W (e / 8) = true ∨ n0 ≤ a) (hd : decode y.2.1 pc = .ok (.iastore, 1)) (hin : vp_in i N) (kk : ∀ M1, tm_I FT W x T0 M0 n0 T M1 nx → (∀ (b c k : Nat) (w : Value), tm_at M b c k w → tm_at M1 b c k w) → (∀ b, b ≠ a → M1 b = M b) → mj_V g l y d (pc + 1) lv st M1 nx kc ks Q) : mj_V g l y d pc lv (.int v :: .int i :: .ref a :: st) M nx kc ks Q := by
  obtain ⟨f, hm⟩ := tm_arrI I ta (by omega)
  have hm0 := hm
  rw [he] at hm
  exact mv_iast hd hm hin rfl (kk _ (I.ast hF ta hW (tm_c1 (by omega) (by rw [mj_up_self, he]))) (tm_at.ast hm0) (fun b hb => mj_up_ne _ _ hb))
end TX
