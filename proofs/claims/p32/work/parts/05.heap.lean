/-! the memory and the heap -/
theorem mj_r_ge {g : mj_G} {a : Nat} (h : 64 ≤ a) : mj_r g a = g.1 + (a - 64) := if_neg (Nat.not_lt.mpr h)
theorem mj_A_r {g : mj_G} {a : Nat} (h : 64 ≤ a) : mj_A g (mj_r g a) := by
  show g.1 ≤ mj_r g a
  rw [mj_r_ge h]
  omega
theorem mj_r_ne {g : mj_G} {a b : Nat} (ha : 64 ≤ a) (hb : 64 ≤ b) (h : a ≠ b) : mj_r g a ≠ mj_r g b := by
  rw [mj_r_ge ha, mj_r_ge hb]
  omega
theorem mj_up_self (M : mj_M) (a : Nat) (c : mj_C) : mj_up M a c a = some c := by simp [mj_up]
theorem mj_up_ne (M : mj_M) {a b : Nat} (c : mj_C) (h : b ≠ a) : mj_up M a c b = M b := by
  have e : Nat.beq b a = false := by
    cases hb : Nat.beq b a with
    | true => exact absurd (Nat.eq_of_beq_eq_true hb) h
    | false => rfl
  rw [mj_up, e]
  rfl
theorem mj_R.set {g : mj_G} {M : mj_M} {nx a : Nat} {c0 c : mj_C} {H H1 : Heap} (hR : mj_R g M nx H) (hM : M a = some c0) (he : va_at g.2.1 kcl (mj_r g a, mj_c g c) H1) (z : H1.size = H.size) (oq : ∀ q : Nat, q ≠ mj_r g a → H1[q]? = H[q]?) : mj_R g (mj_up M a c) nx H1 := by
  refine ⟨fun b c9 hb => ?_, hR.2.1, z.trans hR.2.2⟩
  by_cases h : b = a
  · subst h
    rw [mj_up_self] at hb
    cases hb
    exact ⟨(hR.1 b c0 hM).1, (hR.1 b c0 hM).2.1, he⟩
  · rw [mj_up_ne M c h] at hb
    obtain ⟨e1, e2, e3⟩ := hR.1 b c9 hb
    exact ⟨e1, e2, e3.kept (oq _ (mj_r_ne e1 (hR.1 a c0 hM).1 h))⟩
theorem mj_R.push {g : mj_G} {M : mj_M} {nx : Nat} {c : mj_C} {H H1 : Heap} (hR : mj_R g M nx H) (he : va_at g.2.1 kcl (mj_r g nx, mj_c g c) H1) (z : H1.size = H.size + 1) (oq : ∀ q : Nat, q < H.size → H1[q]? = H[q]?) : mj_R g (mj_up M nx c) (nx + 1) H1 := by
  have hn := hR.2.1
  have hs := hR.2.2
  rw [mj_r_ge hn] at hs
  refine ⟨fun b c9 hb => ?_, by omega, by rw [z, hs, mj_r_ge (by omega)]; omega⟩
  by_cases h : b = nx
  · subst h
    rw [mj_up_self] at hb
    cases hb
    exact ⟨hn, Nat.lt_succ_self b, he⟩
  · rw [mj_up_ne M c h] at hb
    obtain ⟨e1, e2, e3⟩ := hR.1 b c9 hb
    exact ⟨e1, Nat.lt_succ_of_lt e2, e3.kept (oq _ (by rw [mj_r_ge e1, hs]; omega))⟩
theorem mj_R.fresh {g : mj_G} {M : mj_M} {nx : Nat} {H : Heap} (hR : mj_R g M nx H) {a : Nat} (h : nx ≤ a) : M a = none := by
  cases hm : M a with
  | none => rfl
  | some c =>
    have := (hR.1 a c hm).2.1
    omega
theorem mj_S_put {g : mj_G} {H0 H H1 : Heap} {locs : List Loc} {a k : Nat} (h : va_S (mj_A g) H0 H locs) (z : H1.size = H.size) (oq : ∀ q : Nat, q ≠ mj_r g a → H1[q]? = H[q]?) (ha : 64 ≤ a) : va_S (mj_A g) H0 H1 (locs ++ [⟨mj_r g a, k⟩]) := h.put z oq (mj_A_r ha)
theorem mj_S_push {g : mj_G} {H0 H H1 : Heap} {locs : List Loc} (h : va_S (mj_A g) H0 H locs) (z : H1.size = H.size + 1) (oq : ∀ q : Nat, q < H.size → H1[q]? = H[q]?) : va_S (mj_A g) H0 H1 locs :=
  ⟨Nat.le_trans h.1 (by omega), fun x h1 h2 => (oq x (Nat.lt_of_lt_of_le h1 h.1)).trans (h.2.1 x h1 h2), h.2.2⟩
theorem mj_nar (g : mj_G) (ty : FieldType) (v : Value) : narrow ty (mj_v g v) = mj_v g (narrow ty v) := by cases v <;> cases ty <;> rfl
theorem mj_fits (g : mj_G) (ty : FieldType) (v : Value) : fits ty (mj_v g v) = fits ty v := by cases v <;> cases ty <;> rfl
theorem mj_vrf (g : mj_G) (r : Option Nat) : mj_v g (va_rf r) = va_rf (r.map (mj_r g)) := by cases r <;> rfl
/-- a field: entry index of class own is the field k of class number ci -/
def mj_fl (own : String) (index ci k : Nat) : Prop := ∃ (C : String) (T : u_T) (N : Nat) (ref : String), kcl[ci]? = some (C, T, N) ∧ (∀ w ∈ u_ws C T N, w ∈ mj_T) ∧ k < N ∧ Cond.fieldLink own index ref (T k).2.1 (T k).2.2.1 ∈ mj_T ∧ (ref = (T k).1 ∨ Cond.sameField ref (T k).1 (T k).2.1 (T k).2.2.1 ∈ mj_T)
/-- .. of type ty, final or not -/
def mj_fp (own : String) (index ci k : Nat) (ty : FieldType) (fin : Bool) : Prop := ∃ (C : String) (T : u_T) (N : Nat) (ref : String) (ty0 : Nat → FieldType), kcl[ci]? = some (C, T, N) ∧ (∀ w ∈ u_ws C T N, w ∈ mj_T) ∧ k < N ∧ Cond.fieldLink own index ref (T k).2.1 (T k).2.2.1 ∈ mj_T ∧ (ref = (T k).1 ∨ Cond.sameField ref (T k).1 (T k).2.1 (T k).2.2.1 ∈ mj_T) ∧ (∀ k, k < N → parseFieldDescriptor (T k).2.2.1 = some (ty0 k)) ∧ (∀ a, a < N → ∀ b, b < N → a ≠ b → (T a).2.1 ≠ (T b).2.1) ∧ ty0 k = ty ∧ (T k).2.2.2 = fin ∧ (fin = true → (T k).1 = own)
/-- a new object of class number ci, with the values fs -/
def mj_nw (own : String) (index ci : Nat) (fs : List Value) : Prop := ∃ (C : String) (T : u_T) (N : Nat) (ty0 : Nat → FieldType), kcl[ci]? = some (C, T, N) ∧ (∀ w ∈ u_ws C T N, w ∈ mj_T) ∧ (∀ k, k < N → parseFieldDescriptor (T k).2.2.1 = some (ty0 k)) ∧ Cond.classLink own index C ∈ mj_T ∧ Cond.instantiable C N ∈ mj_T ∧ Cond.initialized C ∈ mj_T ∧ (∀ j, j < N → defaultValue (ty0 j) = vp_V fs j) ∧ fs.length = N ∧ ∀ g : mj_G, fs.map (mj_v g) = fs
theorem mj_same {s : State} {args : Array Value} {ref O n d : String} (hts : ∀ w ∈ mj_T, w.before args s = true) (h : ref = O ∨ Cond.sameField ref O n d ∈ mj_T) : ∀ x, s.fieldFound? O n d = some x → s.fieldFound? ref n d = some x := by
  rcases h with rfl | h
  · exact fun _ hx => hx
  · exact fun x hx => u_same (hts _ h) x hx
section MH
variable {g : mj_G} {l : Launch} {y : mj_Y} {d pc : Nat} {lv : List (Nat × Value)} {st : List Value} {M : mj_M} {nx kc ks : Nat} {Q : Option Value → mj_M → Nat → Prop}
theorem mv_get {index ci k a : Nat} {fs : List Value} {v : Value} (hd : decode y.2.1 pc = .ok (.getfield index, 3)) (hf : mj_fl y.1.cls index ci k) (hM : M a = some (.inr (ci, fs))) (hv : fs[k]? = some v) (kk : mj_V g l y d (pc + 3) lv (v :: st) M nx kc ks Q) : mj_V g l y d pc lv (.ref a :: st) M nx kc ks Q := by
  intro p e R s m args below meth c H locs ls cells slots TC TS X hR hS hl h1 h2 h3 h4
  obtain ⟨C, T, N, ref, hc, hin, hk, hlink, hsame⟩ := hf
  obtain ⟨hx, hb, hml, hr, hlk, hown, hnm, hts, hK, hZ, hfr, hlo, hg0⟩ := id X
  have hat := (hR.1 a _ hM).2.2
  refine va_get (D := g.2.1) (cl := kcl) (ws := [(mj_r g a, .inr (ci, fs.map (mj_v g)))]) hx hb hts hin hown hK (fun j q hq => ?_) 0 rfl hc k hk (hts _ hlink) (mj_same hts hsame) (v := mj_v g v) (by rw [List.getElem?_map, hv]; rfl) hd (kk p e R s m args below meth c H locs ls cells slots TC TS X hR hS hl h1 h2 h3 h4)
  have hj : j < 1 := (List.getElem?_eq_some_iff.mp hq).1
  rw [show j = 0 by omega] at hq
  cases hq
  exact hat
theorem mv_put {index ci k a : Nat} {fs fs' : List Value} {v : Value} {ty : FieldType} (hd : decode y.2.1 pc = .ok (.putfield index, 3)) (hf : mj_fp y.1.cls index ci k ty false) (hM : M a = some (.inr (ci, fs))) (hl9 : k < fs.length) (hn : narrow ty v = v) (hfit : fits ty v = true) (hs9 : fs.set k v = fs') (kk : mj_V g l y d (pc + 3) lv st (mj_up M a (.inr (ci, fs'))) nx kc ks Q) : mj_V g l y d pc lv (v :: .ref a :: st) M nx kc ks Q := by
  intro p e R s m args below meth c H locs ls cells slots TC TS X hR hS hl h1 h2 h3 h4
  obtain ⟨C, T, N, ref, ty0, hc, hin, hk, hlink, hsame, hty, hnmT, hte, hfin, -⟩ := hf
  obtain ⟨hx, hb, hml, hr, hlk, hown, hnm, hts, hK, hZ, hfr, hlo, hg0⟩ := id X
  have hd9 : parseFieldDescriptor (T k).2.2.1 = some ty := by rw [hty k hk, hte]
  have hap := va_apart (own := y.1.cls) hts hin ty0 hty hnmT hK hc
  obtain ⟨ha9, -, hat⟩ := hR.1 a _ hM
  have hat : ∃ r : vw_C, kcl[ci]? = some r ∧ t_OB (mj_r g a) (g.2.1.1 ci) r.2.2 (g.2.1.2 ci) H (vp_V (fs.map (mj_v g))) := hat
  obtain ⟨r, e1, cell, q1, q2, q3, q4⟩ := hat
  have hr9 : r = (C, T, N) := Option.some.inj (e1.symm.trans hc)
  subst hr9
  obtain ⟨hS9, hfc, kC, hkC, hkind⟩ := hK.1 ci _ hc
  obtain ⟨cf, kf, fi, f, hi, hsl⟩ := hS9 k hk
  have hlay := hts _ (hin _ (u_in_lay hk))
  unfold u_lay at hlay
  rw [if_neg (by rw [hfin]; decide)] at hlay
  have hst := (u_facts hfc hkC (u_lays hts hin hk) hi).1
  have h6 := u_store hfc hkC hkind hlay hi hd9 (v := mj_v g v) (by rw [mj_nar, hn]) (by rw [mj_fits]; exact hfit)
  refine W.putK hx hb (f := f) ⟨hown, hts _ hlink, ⟨_, _, _, mj_same hts hsame _ hi⟩, hst⟩ (by rw [q2]; exact h6) q1 q3 (by rw [hsl]; exact k2_hasslot (q4 k hk)) rfl rfl hd fun H' e1 e2 e3 => ?_
  rw [hsl] at e1 ⊢
  refine kk p e R s m args below meth c H' _ ls cells slots TC TS X (hR.set hM ?_ e2 e3) (mj_S_put hS e2 e3 ha9) hl h1 h2 h3 h4
  refine ⟨_, hc, t_OB.to (V := updV (vp_V (fs.map (mj_v g))) k (mj_v g v)) ⟨_, e1, q2, q3, t_set q4 hap hk (mj_v g v)⟩ (fun j _ => ?_)⟩
  rw [vp_updV_set (by rw [List.length_map]; exact hl9), ← hs9, ← List.map_set]
theorem mv_putF {index ci k a : Nat} {fs fs' : List Value} {v : Value} {ty : FieldType} (hd : decode y.2.1 pc = .ok (.putfield index, 3)) (hf : mj_fp y.1.cls index ci k ty true) (hi9 : y.1.name = "<init>") (hM : M a = some (.inr (ci, fs))) (hl9 : k < fs.length) (hn : narrow ty v = v) (hfit : fits ty v = true) (hs9 : fs.set k v = fs') (kk : mj_V g l y d (pc + 3) lv st (mj_up M a (.inr (ci, fs'))) nx kc ks Q) : mj_V g l y d pc lv (v :: .ref a :: st) M nx kc ks Q := by
  intro p e R s m args below meth c H locs ls cells slots TC TS X hR hS hl h1 h2 h3 h4
  obtain ⟨C, T, N, ref, ty0, hc, hin, hk, hlink, hsame, hty, hnmT, hte, hfin, hdecl⟩ := hf
  have hdecl := hdecl rfl
  obtain ⟨hx, hb, hml, hr, hlk, hown, hnm, hts, hK, hZ, hfr, hlo, hg0⟩ := id X
  have hd9 : parseFieldDescriptor (T k).2.2.1 = some ty := by rw [hty k hk, hte]
  have hap := va_apart (own := y.1.cls) hts hin ty0 hty hnmT hK hc
  obtain ⟨ha9, -, hat⟩ := hR.1 a _ hM
  have hat : ∃ r : vw_C, kcl[ci]? = some r ∧ t_OB (mj_r g a) (g.2.1.1 ci) r.2.2 (g.2.1.2 ci) H (vp_V (fs.map (mj_v g))) := hat
  obtain ⟨r, e1, cell, q1, q2, q3, q4⟩ := hat
  have hr9 : r = (C, T, N) := Option.some.inj (e1.symm.trans hc)
  subst hr9
  obtain ⟨hS9, hfc, kC, hkC, hkind⟩ := hK.1 ci _ hc
  obtain ⟨cf, kf, fi, f, hi, hsl⟩ := hS9 k hk
  have hlay := hts _ (hin _ (u_in_lay hk))
  unfold u_lay at hlay
  rw [if_pos hfin] at hlay
  have hst := (u_facts hfc hkC (u_lays hts hin hk) hi).1
  have hcf : m.cls = cf := by
    obtain ⟨_, _, c', _, _, _, -, -, hf', -, -, -, hown2, -⟩ := Cond.laysFinal_spec hlay
    have e1 : c' = cf := by have := hi.symm.trans hf'; simp at this; exact this.1.symm
    rw [hdecl] at hown2
    rw [← e1]; exact Option.some.inj (hown.symm.trans hown2)
  have h6 := u_fits hfc hkC hkind (Or.inr hlay) hi hd9 (v := mj_v g v) (by rw [mj_nar, hn]) (by rw [mj_fits]; exact hfit)
  refine W.putFinK hx hb hown (hts _ hlink) (mj_same hts hsame _ hi) hst hcf (hnm hi9) (by rw [q2]; exact h6) q1 q3 (by rw [hsl]; exact k2_hasslot (q4 k hk)) rfl rfl hd fun H' e1 e2 e3 => ?_
  rw [hsl] at e1 ⊢
  refine kk p e R s m args below meth c H' _ ls cells slots TC TS X (hR.set hM ?_ e2 e3) (mj_S_put hS e2 e3 ha9) hl h1 h2 h3 h4
  refine ⟨_, hc, t_OB.to (V := updV (vp_V (fs.map (mj_v g))) k (mj_v g v)) ⟨_, e1, q2, q3, t_set q4 hap hk (mj_v g v)⟩ (fun j _ => ?_)⟩
  rw [vp_updV_set (by rw [List.length_map]; exact hl9), ← hs9, ← List.map_set]
theorem mv_new {index ci kc' ks' : Nat} {fs : List Value} (hd : decode y.2.1 pc = .ok (.new index, 3)) (hf : mj_nw y.1.cls index ci fs) (hkc : kc' + 1 ≤ kc) (hks : ks' + fs.length ≤ ks) (kk : mj_V g l y d (pc + 3) lv (.ref nx :: st) (mj_up M nx (.inr (ci, fs))) (nx + 1) kc' ks' Q) : mj_V g l y d pc lv st M nx kc ks Q := by
  intro p e R s m args below meth c H locs ls cells slots TC TS X hR hS hl h1 h2 h3 h4
  obtain ⟨C, T, N, ty0, hc, hin, hty, hcl, hinst, hini, hfs, hlen, hmap⟩ := hf
  obtain ⟨hx, hb, hml, hr, hlk, hown, hnm, hts, hK, hZ, hfr, hlo, hg0⟩ := id X
  have hKn := hK.1 ci _ hc
  refine W.newcK hx hb hown (hts _ hcl) (hts _ hinst) (hts _ hini) rfl hd (by omega) (by omega) hKn.2.1 rfl fun H1 kC hkC e1 z1 o1 => ?_
  have hsz := hR.2.2
  refine W.eq (g2 := F0 m (pc + 3) ls ((Value.ref nx :: st).map (mj_v g))) (by rw [hsz]; rfl) ?_
  refine kk p e R s m args below meth c H1 locs ls (cells + 1) (slots + N) TC TS X (hR.push ?_ z1 o1) (mj_S_push hS z1 o1) hl (by omega) (by omega) h3 h4
  refine ⟨_, hc, ?_⟩
  have hb9 := (u_born ty0 hts hin hKn hkC e1 hty).to hfs
  rw [hsz] at hb9
  have hm9 := hmap g
  show t_OB (mj_r g nx) _ _ _ H1 (vp_V (fs.map (mj_v g)))
  rw [hm9]
  exact hb9
end MH
