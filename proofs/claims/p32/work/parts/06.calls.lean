section MA
variable {g : mj_G} {l : Launch} {y : mj_Y} {d pc : Nat} {lv : List (Nat × Value)} {st : List Value} {M : mj_M} {nx kc ks : Nat} {Q : Option Value → mj_M → Nat → Prop}
theorem mj_one {D : va_G} {cl : List vw_C} {a : Nat} {e : va_E} {H : Heap} (h : va_at D cl (a, e) H) : va_P D cl [(a, e)] H := by
  intro j q hq
  have hj : j < 1 := (List.getElem?_eq_some_iff.mp hq).1
  rw [show j = 0 by omega] at hq
  cases hq
  exact h
theorem mv_iald {a n : Nat} {f : Nat → Int32} {i : Int32} {v : Int32} (hd : decode y.2.1 pc = .ok (.iaload, 1)) (hM : M a = some (.inl (0, n, .inl f))) (hin : vp_in i n) (hv : f i.toNatClampNeg = v) (kk : mj_V g l y d (pc + 1) lv (.int v :: st) M nx kc ks Q) : mj_V g l y d pc lv (.int i :: .ref a :: st) M nx kc ks Q := by
  intro p e R s m args below meth c H locs ls cells slots TC TS X hR hS hl h1 h2 h3 h4
  obtain ⟨hx, hb, hml, hr, hlk, hown, hnm, hts, hK, hZ, hfr, hlo, hg0⟩ := id X
  subst hv
  exact va_iald (D := g.2.1) (cl := kcl) (tys := mj_tys g) hx hb hK (mj_one (hR.1 a _ hM).2.2) 0 0 rfl rfl hin hd (kk p e R s m args below meth c H locs ls cells slots TC TS X hR hS hl h1 h2 h3 h4)
theorem mv_iast {a n : Nat} {f f' : Nat → Int32} {i : Int32} {x : Int32} (hd : decode y.2.1 pc = .ok (.iastore, 1)) (hM : M a = some (.inl (0, n, .inl f))) (hin : vp_in i n) (hf : upd f i.toNatClampNeg x = f') (kk : mj_V g l y d (pc + 1) lv st (mj_up M a (.inl (0, n, .inl f'))) nx kc ks Q) : mj_V g l y d pc lv (.int x :: .int i :: .ref a :: st) M nx kc ks Q := by
  intro p e R s m args below meth c H locs ls cells slots TC TS X hR hS hl h1 h2 h3 h4
  obtain ⟨hx, hb, hml, hr, hlk, hown, hnm, hts, hK, hZ, hfr, hlo, hg0⟩ := id X
  subst hf
  obtain ⟨ha9, -, hat⟩ := hR.1 a _ hM
  refine W.iast hx hb (cell := vp_cell (g.2.2.1 0) (n, .inl f)) hat ((hK.2 0 _ rfl).1 n (fun j => .int (f j))) (fun q => by cases q) (by show ¬ (i < 0 ∨ (arrV _ _ _).slots.size ≤ _); rw [arrV_size]; exact hin) rfl rfl hd fun H1 e9 z oq => ?_
  refine kk p e R s m args below meth c H1 _ ls cells slots TC TS X (hR.set hM ?_ z oq) (mj_S_put hS z oq ha9) hl h1 h2 h3 h4
  show H1[mj_r g a]? = some (vp_cell _ _)
  rw [e9]
  show _ = some (vp_cell (g.2.2.1 0) (n, .inl (upd f i.toNatClampNeg x)))
  rw [vp_cell_i, vp_cell_i, arrV_store]
  congr 2
  funext q
  by_cases hq : q = i.toNatClampNeg
  · subst hq
    simp [updV, upd, vp_updL, vp_nar]
    try rfl
  · simp [updV, upd, vp_updL, hq]
theorem mv_lald {a n : Nat} {f : Nat → Int64} {i : Int32} {v : Int64} (hd : decode y.2.1 pc = .ok (.laload, 1)) (hM : M a = some (.inl (1, n, .inr (.inl f)))) (hin : vp_in i n) (hv : f i.toNatClampNeg = v) (kk : mj_V g l y d (pc + 1) lv (.long v :: st) M nx kc ks Q) : mj_V g l y d pc lv (.int i :: .ref a :: st) M nx kc ks Q := by
  intro p e R s m args below meth c H locs ls cells slots TC TS X hR hS hl h1 h2 h3 h4
  obtain ⟨hx, hb, hml, hr, hlk, hown, hnm, hts, hK, hZ, hfr, hlo, hg0⟩ := id X
  subst hv
  exact va_lald (D := g.2.1) (cl := kcl) (tys := mj_tys g) hx hb hK (mj_one (hR.1 a _ hM).2.2) 0 1 rfl rfl hin hd (kk p e R s m args below meth c H locs ls cells slots TC TS X hR hS hl h1 h2 h3 h4)
theorem mv_last {a n : Nat} {f f' : Nat → Int64} {i : Int32} {x : Int64} (hd : decode y.2.1 pc = .ok (.lastore, 1)) (hM : M a = some (.inl (1, n, .inr (.inl f)))) (hin : vp_in i n) (hf : vp_updL f i.toNatClampNeg x = f') (kk : mj_V g l y d (pc + 1) lv st (mj_up M a (.inl (1, n, .inr (.inl f')))) nx kc ks Q) : mj_V g l y d pc lv (.long x :: .int i :: .ref a :: st) M nx kc ks Q := by
  intro p e R s m args below meth c H locs ls cells slots TC TS X hR hS hl h1 h2 h3 h4
  obtain ⟨hx, hb, hml, hr, hlk, hown, hnm, hts, hK, hZ, hfr, hlo, hg0⟩ := id X
  subst hf
  obtain ⟨ha9, -, hat⟩ := hR.1 a _ hM
  refine W.last hx hb (cell := vp_cell (g.2.2.1 1) (n, .inr (.inl f))) hat ((hK.2 1 _ rfl).1 n (fun j => .long (f j))) (fun q => by cases q) (by show ¬ (i < 0 ∨ (arrV _ _ _).slots.size ≤ _); rw [arrV_size]; exact hin) rfl rfl hd fun H1 e9 z oq => ?_
  refine kk p e R s m args below meth c H1 _ ls cells slots TC TS X (hR.set hM ?_ z oq) (mj_S_put hS z oq ha9) hl h1 h2 h3 h4
  show H1[mj_r g a]? = some (vp_cell _ _)
  rw [e9]
  show _ = some (vp_cell (g.2.2.1 1) (n, .inr (.inl (vp_updL f i.toNatClampNeg x))))
  rw [vp_cell_l, vp_cell_l, arrV_store]
  congr 2
  funext q
  by_cases hq : q = i.toNatClampNeg
  · subst hq
    simp [updV, upd, vp_updL, vp_nar]
    try rfl
  · simp [updV, upd, vp_updL, hq]
theorem mv_zald {a n : Nat} {f : Nat → Int32} {i : Int32} {v : Int32} (hd : decode y.2.1 pc = .ok (.baload, 1)) (hM : M a = some (.inl (2, n, .inl f))) (hin : vp_in i n) (hv : f i.toNatClampNeg = v) (kk : mj_V g l y d (pc + 1) lv (.int v :: st) M nx kc ks Q) : mj_V g l y d pc lv (.int i :: .ref a :: st) M nx kc ks Q := by
  intro p e R s m args below meth c H locs ls cells slots TC TS X hR hS hl h1 h2 h3 h4
  obtain ⟨hx, hb, hml, hr, hlk, hown, hnm, hts, hK, hZ, hfr, hlo, hg0⟩ := id X
  subst hv
  exact va_zald (D := g.2.1) (cl := kcl) (tys := mj_tys g) hx hb hK (mj_one (hR.1 a _ hM).2.2) 0 2 rfl rfl hin hd (kk p e R s m args below meth c H locs ls cells slots TC TS X hR hS hl h1 h2 h3 h4)
theorem mv_zast {a n : Nat} {f f' : Nat → Int32} {i : Int32} {x : Int32} (hd : decode y.2.1 pc = .ok (.bastore, 1)) (hM : M a = some (.inl (2, n, .inl f))) (hin : vp_in i n) (hf : upd f i.toNatClampNeg (vp_nar .boolean x) = f') (kk : mj_V g l y d (pc + 1) lv st (mj_up M a (.inl (2, n, .inl f'))) nx kc ks Q) : mj_V g l y d pc lv (.int x :: .int i :: .ref a :: st) M nx kc ks Q := by
  intro p e R s m args below meth c H locs ls cells slots TC TS X hR hS hl h1 h2 h3 h4
  obtain ⟨hx, hb, hml, hr, hlk, hown, hnm, hts, hK, hZ, hfr, hlo, hg0⟩ := id X
  subst hf
  obtain ⟨ha9, -, hat⟩ := hR.1 a _ hM
  refine W.zast hx hb (cell := vp_cell (g.2.2.1 2) (n, .inl f)) hat ((hK.2 2 _ rfl).1 n (fun j => .int (f j))) (fun q => by cases q) (by show ¬ (i < 0 ∨ (arrV _ _ _).slots.size ≤ _); rw [arrV_size]; exact hin) rfl rfl hd fun H1 e9 z oq => ?_
  refine kk p e R s m args below meth c H1 _ ls cells slots TC TS X (hR.set hM ?_ z oq) (mj_S_put hS z oq ha9) hl h1 h2 h3 h4
  show H1[mj_r g a]? = some (vp_cell _ _)
  rw [e9]
  show _ = some (vp_cell (g.2.2.1 2) (n, .inl (upd f i.toNatClampNeg (vp_nar .boolean x))))
  rw [vp_cell_i, vp_cell_i, arrV_store]
  congr 2
  funext q
  by_cases hq : q = i.toNatClampNeg
  · subst hq
    simp [updV, upd, vp_updL, vp_nar]
    try rfl
  · simp [updV, upd, vp_updL, hq]
theorem mv_bald {a n : Nat} {f : Nat → Int32} {i : Int32} {v : Int32} (hd : decode y.2.1 pc = .ok (.baload, 1)) (hM : M a = some (.inl (3, n, .inl f))) (hin : vp_in i n) (hv : f i.toNatClampNeg = v) (kk : mj_V g l y d (pc + 1) lv (.int v :: st) M nx kc ks Q) : mj_V g l y d pc lv (.int i :: .ref a :: st) M nx kc ks Q := by
  intro p e R s m args below meth c H locs ls cells slots TC TS X hR hS hl h1 h2 h3 h4
  obtain ⟨hx, hb, hml, hr, hlk, hown, hnm, hts, hK, hZ, hfr, hlo, hg0⟩ := id X
  subst hv
  exact va_bald (D := g.2.1) (cl := kcl) (tys := mj_tys g) hx hb hK (mj_one (hR.1 a _ hM).2.2) 0 3 rfl rfl hin hd (kk p e R s m args below meth c H locs ls cells slots TC TS X hR hS hl h1 h2 h3 h4)
theorem mv_bast {a n : Nat} {f f' : Nat → Int32} {i : Int32} {x : Int32} (hd : decode y.2.1 pc = .ok (.bastore, 1)) (hM : M a = some (.inl (3, n, .inl f))) (hin : vp_in i n) (hf : upd f i.toNatClampNeg (vp_nar .byte x) = f') (kk : mj_V g l y d (pc + 1) lv st (mj_up M a (.inl (3, n, .inl f'))) nx kc ks Q) : mj_V g l y d pc lv (.int x :: .int i :: .ref a :: st) M nx kc ks Q := by
  intro p e R s m args below meth c H locs ls cells slots TC TS X hR hS hl h1 h2 h3 h4
  obtain ⟨hx, hb, hml, hr, hlk, hown, hnm, hts, hK, hZ, hfr, hlo, hg0⟩ := id X
  subst hf
  obtain ⟨ha9, -, hat⟩ := hR.1 a _ hM
  refine W.bast hx hb (cell := vp_cell (g.2.2.1 3) (n, .inl f)) hat ((hK.2 3 _ rfl).1 n (fun j => .int (f j))) (fun q => by cases q) (by show ¬ (i < 0 ∨ (arrV _ _ _).slots.size ≤ _); rw [arrV_size]; exact hin) rfl rfl hd fun H1 e9 z oq => ?_
  refine kk p e R s m args below meth c H1 _ ls cells slots TC TS X (hR.set hM ?_ z oq) (mj_S_put hS z oq ha9) hl h1 h2 h3 h4
  show H1[mj_r g a]? = some (vp_cell _ _)
  rw [e9]
  show _ = some (vp_cell (g.2.2.1 3) (n, .inl (upd f i.toNatClampNeg (vp_nar .byte x))))
  rw [vp_cell_i, vp_cell_i, arrV_store]
  congr 2
  funext q
  by_cases hq : q = i.toNatClampNeg
  · subst hq
    simp [updV, upd, vp_updL, vp_nar]
    try rfl
  · simp [updV, upd, vp_updL, hq]
theorem mv_aald {a n : Nat} {f : Nat → Option Nat} {i : Int32} {r : Option Nat} (hd : decode y.2.1 pc = .ok (.aaload, 1)) (hM : M a = some (.inl (4, n, .inr (.inr (.inr (.inr f)))))) (hin : vp_in i n) (hv : f i.toNatClampNeg = r) (kk : mj_V g l y d (pc + 1) lv (va_rf r :: st) M nx kc ks Q) : mj_V g l y d pc lv (.int i :: .ref a :: st) M nx kc ks Q := by
  intro p e R s m args below meth c H locs ls cells slots TC TS X hR hS hl h1 h2 h3 h4
  obtain ⟨hx, hb, hml, hr, hlk, hown, hnm, hts, hK, hZ, hfr, hlo, hg0⟩ := id X
  subst hv
  refine va_aldq (D := g.2.1) (cl := kcl) (tys := mj_tys g) (C := "java/lang/Object") (f := fun j => (f j).map (mj_r g)) hx hb hK (mj_one (hR.1 a _ hM).2.2) 0 4 rfl rfl hin hd ?_
  refine W.eq (g2 := F0 m (pc + 1) ls ((va_rf (f i.toNatClampNeg) :: st).map (mj_v g))) (by rw [List.map_cons, mj_vrf]) (kk p e R s m args below meth c H locs ls cells slots TC TS X hR hS hl h1 h2 h3 h4)
theorem mv_alen {t a : Nat} {x : vp_A} {v : Int32} (hd : decode y.2.1 pc = .ok (.arraylength, 1)) (hM : M a = some (.inl (t, x))) (ht : t < 5) (hv : Int32.ofNat x.1 = v) (kk : mj_V g l y d (pc + 1) lv (.int v :: st) M nx kc ks Q) : mj_V g l y d pc lv (.ref a :: st) M nx kc ks Q := by
  intro p e R s m args below meth c H locs ls cells slots TC TS X hR hS hl h1 h2 h3 h4
  obtain ⟨hx, hb, hml, hr, hlk, hown, hnm, hts, hK, hZ, hfr, hlo, hg0⟩ := id X
  have h9 : ∃ q, (mj_tys g)[t]? = some (g.2.2.1 t, q) := by
    rcases (show t = 0 ∨ t = 1 ∨ t = 2 ∨ t = 3 ∨ t = 4 by omega) with rfl | rfl | rfl | rfl | rfl <;> exact ⟨_, rfl⟩
  obtain ⟨q, hq⟩ := h9
  exact va_alen (D := g.2.1) (cl := kcl) (tys := mj_tys g) (x := mj_a g x) hx hb hK (mj_one (hR.1 a _ hM).2.2) 0 t rfl hq hv hd (kk p e R s m args below meth c H locs ls cells slots TC TS X hR hS hl h1 h2 h3 h4)
theorem mj_ac_int : Cond.arrayClass .int ∈ mj_T := mj_in1 (by decide +kernel) rfl
theorem mv_newa_int {n : Int32} {N kc' ks' : Nat} (hd : decode y.2.1 pc = .ok (.newarray .int, 2)) (hn : ¬ n < 0) (hN : n.toNatClampNeg = N) (hbt : N * 4 ≤ 536870912) (hkc : kc' + 1 ≤ kc) (hks : ks' + N ≤ ks) (kk : mj_V g l y d (pc + 2) lv (.ref nx :: st) (mj_up M nx (.inl (0, N, .inl (fun _ => 0)))) (nx + 1) kc' ks' Q) : mj_V g l y d pc lv (.int n :: st) M nx kc ks Q := by
  intro p e R s m args below meth c H locs ls cells slots TC TS X hR hS hl h1 h2 h3 h4
  obtain ⟨hx, hb, hml, hr, hlk, hown, hnm, hts, hK, hZ, hfr, hlo, hg0⟩ := id X
  have hsz := hR.2.2
  refine va_newaK (atype := .int) hx hb (hts _ mj_ac_int) rfl hd rfl hn hN hbt (by omega) (by omega) rfl fun H1 cA e1 z1 o1 hAr hNm => ?_
  have hcA : cA = g.2.2.1 0 := Option.some.inj (hNm.symm.trans (hK.2 0 _ rfl).2)
  subst hcA
  refine W.eq (g2 := F0 m (pc + 2) ls ((Value.ref nx :: st).map (mj_v g))) (by rw [hsz]; rfl) ?_
  refine kk p e R s m args below meth c H1 locs ls (cells + 1) (slots + N) TC TS X (hR.push ?_ z1 o1) (mj_S_push hS z1 o1) hl (by omega) (by omega) h3 h4
  show H1[mj_r g nx]? = some (vp_cell (g.2.2.1 0) (N, .inl (fun _ => 0)))
  rw [← hsz]
  exact e1
theorem mj_ac_long : Cond.arrayClass .long ∈ mj_T := mj_in1 (by decide +kernel) rfl
theorem mv_newa_long {n : Int32} {N kc' ks' : Nat} (hd : decode y.2.1 pc = .ok (.newarray .long, 2)) (hn : ¬ n < 0) (hN : n.toNatClampNeg = N) (hbt : N * 8 ≤ 536870912) (hkc : kc' + 1 ≤ kc) (hks : ks' + N ≤ ks) (kk : mj_V g l y d (pc + 2) lv (.ref nx :: st) (mj_up M nx (.inl (1, N, .inr (.inl (fun _ => 0))))) (nx + 1) kc' ks' Q) : mj_V g l y d pc lv (.int n :: st) M nx kc ks Q := by
  intro p e R s m args below meth c H locs ls cells slots TC TS X hR hS hl h1 h2 h3 h4
  obtain ⟨hx, hb, hml, hr, hlk, hown, hnm, hts, hK, hZ, hfr, hlo, hg0⟩ := id X
  have hsz := hR.2.2
  refine va_newaK (atype := .long) hx hb (hts _ mj_ac_long) rfl hd rfl hn hN hbt (by omega) (by omega) rfl fun H1 cA e1 z1 o1 hAr hNm => ?_
  have hcA : cA = g.2.2.1 1 := Option.some.inj (hNm.symm.trans (hK.2 1 _ rfl).2)
  subst hcA
  refine W.eq (g2 := F0 m (pc + 2) ls ((Value.ref nx :: st).map (mj_v g))) (by rw [hsz]; rfl) ?_
  refine kk p e R s m args below meth c H1 locs ls (cells + 1) (slots + N) TC TS X (hR.push ?_ z1 o1) (mj_S_push hS z1 o1) hl (by omega) (by omega) h3 h4
  show H1[mj_r g nx]? = some (vp_cell (g.2.2.1 1) (N, .inr (.inl (fun _ => 0))))
  rw [← hsz]
  exact e1
theorem mj_ac_bool : Cond.arrayClass .boolean ∈ mj_T := mj_in1 (by decide +kernel) rfl
theorem mv_newa_bool {n : Int32} {N kc' ks' : Nat} (hd : decode y.2.1 pc = .ok (.newarray .boolean, 2)) (hn : ¬ n < 0) (hN : n.toNatClampNeg = N) (hbt : N * 1 ≤ 536870912) (hkc : kc' + 1 ≤ kc) (hks : ks' + N ≤ ks) (kk : mj_V g l y d (pc + 2) lv (.ref nx :: st) (mj_up M nx (.inl (2, N, .inl (fun _ => 0)))) (nx + 1) kc' ks' Q) : mj_V g l y d pc lv (.int n :: st) M nx kc ks Q := by
  intro p e R s m args below meth c H locs ls cells slots TC TS X hR hS hl h1 h2 h3 h4
  obtain ⟨hx, hb, hml, hr, hlk, hown, hnm, hts, hK, hZ, hfr, hlo, hg0⟩ := id X
  have hsz := hR.2.2
  refine va_newaK (atype := .boolean) hx hb (hts _ mj_ac_bool) rfl hd rfl hn hN hbt (by omega) (by omega) rfl fun H1 cA e1 z1 o1 hAr hNm => ?_
  have hcA : cA = g.2.2.1 2 := Option.some.inj (hNm.symm.trans (hK.2 2 _ rfl).2)
  subst hcA
  refine W.eq (g2 := F0 m (pc + 2) ls ((Value.ref nx :: st).map (mj_v g))) (by rw [hsz]; rfl) ?_
  refine kk p e R s m args below meth c H1 locs ls (cells + 1) (slots + N) TC TS X (hR.push ?_ z1 o1) (mj_S_push hS z1 o1) hl (by omega) (by omega) h3 h4
  show H1[mj_r g nx]? = some (vp_cell (g.2.2.1 2) (N, .inl (fun _ => 0)))
  rw [← hsz]
  exact e1
theorem mj_ac_byte : Cond.arrayClass .byte ∈ mj_T := mj_in1 (by decide +kernel) rfl
theorem mv_newa_byte {n : Int32} {N kc' ks' : Nat} (hd : decode y.2.1 pc = .ok (.newarray .byte, 2)) (hn : ¬ n < 0) (hN : n.toNatClampNeg = N) (hbt : N * 1 ≤ 536870912) (hkc : kc' + 1 ≤ kc) (hks : ks' + N ≤ ks) (kk : mj_V g l y d (pc + 2) lv (.ref nx :: st) (mj_up M nx (.inl (3, N, .inl (fun _ => 0)))) (nx + 1) kc' ks' Q) : mj_V g l y d pc lv (.int n :: st) M nx kc ks Q := by
  intro p e R s m args below meth c H locs ls cells slots TC TS X hR hS hl h1 h2 h3 h4
  obtain ⟨hx, hb, hml, hr, hlk, hown, hnm, hts, hK, hZ, hfr, hlo, hg0⟩ := id X
  have hsz := hR.2.2
  refine va_newaK (atype := .byte) hx hb (hts _ mj_ac_byte) rfl hd rfl hn hN hbt (by omega) (by omega) rfl fun H1 cA e1 z1 o1 hAr hNm => ?_
  have hcA : cA = g.2.2.1 3 := Option.some.inj (hNm.symm.trans (hK.2 3 _ rfl).2)
  subst hcA
  refine W.eq (g2 := F0 m (pc + 2) ls ((Value.ref nx :: st).map (mj_v g))) (by rw [hsz]; rfl) ?_
  refine kk p e R s m args below meth c H1 locs ls (cells + 1) (slots + N) TC TS X (hR.push ?_ z1 o1) (mj_S_push hS z1 o1) hl (by omega) (by omega) h3 h4
  show H1[mj_r g nx]? = some (vp_cell (g.2.2.1 3) (N, .inl (fun _ => 0)))
  rw [← hsz]
  exact e1
theorem mj_ao : Cond.arrayOver (.object "java/lang/Object") ∈ mj_T := mj_in1 (by decide +kernel) rfl
theorem mv_newq {index : Nat} {n : Int32} {N kc' ks' : Nat} (hd : decode y.2.1 pc = .ok (.anewarray index, 3)) (hw : Cond.classLink y.1.cls index "java/lang/Object" ∈ mj_T) (hn : ¬ n < 0) (hN : n.toNatClampNeg = N) (hbt : N * 4 ≤ 536870912) (hkc : kc' + 1 ≤ kc) (hks : ks' + N ≤ ks) (kk : mj_V g l y d (pc + 3) lv (.ref nx :: st) (mj_up M nx (.inl (4, N, .inr (.inr (.inr (.inr (fun _ => none))))))) (nx + 1) kc' ks' Q) : mj_V g l y d pc lv (.int n :: st) M nx kc ks Q := by
  intro p e R s m args below meth c H locs ls cells slots TC TS X hR hS hl h1 h2 h3 h4
  obtain ⟨hx, hb, hml, hr, hlk, hown, hnm, hts, hK, hZ, hfr, hlo, hg0⟩ := id X
  have hsz := hR.2.2
  subst hN
  refine W.anew hx hb hown (hts _ hw) (hts _ mj_ao) rfl hd rfl hn hbt (by omega) (by omega) fun cA kA comp f1 f2 f3 f4 => ?_
  obtain ⟨kB, compB, b1, b2, b3, b4⟩ := (hK.2 4 _ rfl).2
  have hcA : cA = g.2.2.1 4 := Option.some.inj (f1.symm.trans b4)
  subst hcA
  generalize hH1 : H.push ({ cls := g.2.2.1 4, slots := Array.replicate n.toNatClampNeg .null, vm := .none } : Cell) = H1
  have z1 : H1.size = H.size + 1 := by rw [← hH1, Array.size_push]
  have e1 : H1[H.size]? = some (arrV (g.2.2.1 4) n.toNatClampNeg (fun _ => .null)) := by rw [← hH1, Array.getElem?_push_size, ← arrV_new]
  have o1 : ∀ q : Nat, q < H.size → H1[q]? = H[q]? := fun q hq => by rw [← hH1, Array.getElem?_push, if_neg (Nat.ne_of_lt hq)]
  refine W.eq (g2 := F0 m (pc + 3) ls ((Value.ref nx :: st).map (mj_v g))) (by rw [hsz]; rfl) ?_
  refine kk p e R s m args below meth c H1 locs ls (cells + 1) (slots + n.toNatClampNeg) TC TS X (hR.push ?_ z1 o1) (mj_S_push hS z1 o1) hl (by omega) (by omega) h3 h4
  show H1[mj_r g nx]? = some (vp_cell (g.2.2.1 4) (n.toNatClampNeg, .inr (.inr (.inr (.inr (fun j => ((fun _ => none : Nat → Option Nat) j).map (mj_r g)))))))
  rw [← hsz, vp_cell_q]
  exact e1
theorem mv_aast {a n v ci : Nat} {vs : List Value} {f f' : Nat → Option Nat} {C : String} {T : u_T} {N : Nat} {i : Int32} (hd : decode y.2.1 pc = .ok (.aastore, 1)) (hM : M a = some (.inl (4, n, .inr (.inr (.inr (.inr f)))))) (hin : vp_in i n) (hv : M v = some (.inr (ci, vs))) (hc : kcl[ci]? = some (C, T, N)) (hca : Cond.castable C "java/lang/Object" ∈ mj_T) (hf : va_up f i.toNatClampNeg (some v) = f') (kk : mj_V g l y d (pc + 1) lv st (mj_up M a (.inl (4, n, .inr (.inr (.inr (.inr f')))))) nx kc ks Q) : mj_V g l y d pc lv (.ref v :: .int i :: .ref a :: st) M nx kc ks Q := by
  intro p e R s m args below meth c H locs ls cells slots TC TS X hR hS hl h1 h2 h3 h4
  obtain ⟨hx, hb, hml, hr, hlk, hown, hnm, hts, hK, hZ, hfr, hlo, hg0⟩ := id X
  subst hf
  have hlt : i.toNatClampNeg < n := Nat.not_le.mp fun q => hin (Or.inr q)
  have h0 : ¬ i < 0 := fun q => hin (Or.inl q)
  obtain ⟨ha9, -, hat⟩ := hR.1 a _ hM
  obtain ⟨-, -, hvt⟩ := hR.1 v _ hv
  have hvt : ∃ r : vw_C, kcl[ci]? = some r ∧ t_OB (mj_r g v) (g.2.1.1 ci) r.2.2 (g.2.1.2 ci) H (vp_V (vs.map (mj_v g))) := hvt
  obtain ⟨r', hr', cellV, g1, g2, g3, -⟩ := hvt
  have hcls := (hK.1 ci _ hc).2
  obtain ⟨kA, comp, k1, k2, k3, -⟩ := (hK.2 4 _ rfl).2
  obtain ⟨kE, hkE, -⟩ := Vm.findClass_spec k3
  obtain ⟨c0, t1, f1, f2, f3⟩ := Cond.castable_spec (hts _ hca)
  cases hcls.1.symm.trans f1
  cases k3.symm.trans f2
  obtain ⟨kC, hkC, -⟩ := hcls.2
  refine W.aast hx hb (cell := vp_cell (g.2.2.1 4) (n, .inr (.inr (.inr (.inr (fun j => (f j).map (mj_r g))))))) hat (fun q h => by cases h) (fun h => by cases h) k1 k2 rfl hkE ⟨h0, by show _ < (arrV _ _ _).slots.size; rw [arrV_size]; exact hlt⟩ g1 (fun q h => by rw [g3] at h; cases h) (by rw [g2]; exact hkC) (by rw [g2]; exact f3) rfl rfl hd fun H1 e9 z oq => ?_
  refine kk p e R s m args below meth c H1 _ ls cells slots TC TS X (hR.set hM ?_ z oq) (mj_S_put hS z oq ha9) hl h1 h2 h3 h4
  show H1[mj_r g a]? = some (vp_cell (g.2.2.1 4) (n, .inr (.inr (.inr (.inr (fun j => ((va_up f i.toNatClampNeg (some v)) j).map (mj_r g)))))))
  rw [e9]
  rw [vp_cell_q, vp_cell_q, arrV_store]
  congr 2
  funext q
  by_cases hq : q = i.toNatClampNeg
  · subst hq
    simp [updV, va_up, va_rf]
  · simp [updV, va_up, hq]
theorem mv_getsD {index : Nat} (hd : decode y.2.1 pc = .ok (.getstatic index, 3)) (hw : Cond.fieldLink y.1.cls index "java/util/ArrayList" "DEFAULTCAPACITY_EMPTY_ELEMENTDATA" "[Ljava/lang/Object;" ∈ mj_T) (kk : mj_V g l y d (pc + 3) lv (.ref 0 :: st) M nx kc ks Q) : mj_V g l y d pc lv st M nx kc ks Q := by
  intro p e R s m args below meth c H locs ls cells slots TC TS X hR hS hl h1 h2 h3 h4
  obtain ⟨hx, hb, hml, hr, hlk, hown, hnm, hts, hK, hZ, hfr, hlo, hg0⟩ := id X
  exact va_gets hx hb hZ.1.1 hS hown (hts _ hw) (fun _ h => h) hd (kk p e R s m args below meth c H locs ls cells slots TC TS X hR hS hl h1 h2 h3 h4)
theorem mv_gets1 {index : Nat} (hd : decode y.2.1 pc = .ok (.getstatic index, 3)) (hw : Cond.fieldLinkNest y.1.cls index "TrustDesk" "RULE_WITHOUT" "[I" "TrustDesk" ∈ mj_T) (kk : mj_V g l y d (pc + 3) lv (.ref 1 :: st) M nx kc ks Q) : mj_V g l y d pc lv st M nx kc ks Q := by
  intro p e R s m args below meth c H locs ls cells slots TC TS X hR hS hl h1 h2 h3 h4
  obtain ⟨hx, hb, hml, hr, hlk, hown, hnm, hts, hK, hZ, hfr, hlo, hg0⟩ := id X
  exact va_getsN hx hb hZ.2.1.1 hS hown (hts _ hw) (fun _ h => h) hd (kk p e R s m args below meth c H locs ls cells slots TC TS X hR hS hl h1 h2 h3 h4)
theorem mv_gets2 {index : Nat} (hd : decode y.2.1 pc = .ok (.getstatic index, 3)) (hw : Cond.fieldLinkNest y.1.cls index "TrustDesk" "RULE_LEAST" "[I" "TrustDesk" ∈ mj_T) (kk : mj_V g l y d (pc + 3) lv (.ref 2 :: st) M nx kc ks Q) : mj_V g l y d pc lv st M nx kc ks Q := by
  intro p e R s m args below meth c H locs ls cells slots TC TS X hR hS hl h1 h2 h3 h4
  obtain ⟨hx, hb, hml, hr, hlk, hown, hnm, hts, hK, hZ, hfr, hlo, hg0⟩ := id X
  exact va_getsN hx hb hZ.2.2.1.1 hS hown (hts _ hw) (fun _ h => h) hd (kk p e R s m args below meth c H locs ls cells slots TC TS X hR hS hl h1 h2 h3 h4)
theorem mv_gets3 {index : Nat} (hd : decode y.2.1 pc = .ok (.getstatic index, 3)) (hw : Cond.fieldLinkNest y.1.cls index "TrustDesk" "RULE_MOST" "[I" "TrustDesk" ∈ mj_T) (kk : mj_V g l y d (pc + 3) lv (.ref 3 :: st) M nx kc ks Q) : mj_V g l y d pc lv st M nx kc ks Q := by
  intro p e R s m args below meth c H locs ls cells slots TC TS X hR hS hl h1 h2 h3 h4
  obtain ⟨hx, hb, hml, hr, hlk, hown, hnm, hts, hK, hZ, hfr, hlo, hg0⟩ := id X
  exact va_getsN hx hb hZ.2.2.2.1.1 hS hown (hts _ hw) (fun _ h => h) hd (kk p e R s m args below meth c H locs ls cells slots TC TS X hR hS hl h1 h2 h3 h4)
theorem mv_alen0 (hd : decode y.2.1 pc = .ok (.arraylength, 1)) (kk : mj_V g l y d (pc + 1) lv (.int 0 :: st) M nx kc ks Q) : mj_V g l y d pc lv (.ref 0 :: st) M nx kc ks Q := by
  intro p e R s m args below meth c H locs ls cells slots TC TS X hR hS hl h1 h2 h3 h4
  obtain ⟨hx, hb, hml, hr, hlk, hown, hnm, hts, hK, hZ, hfr, hlo, hg0⟩ := id X
  exact va_tlen hx hb hZ.1.2 hS (by rfl) hd (kk p e R s m args below meth c H locs ls cells slots TC TS X hR hS hl h1 h2 h3 h4)
theorem mv_alen2 (hd : decode y.2.1 pc = .ok (.arraylength, 1)) (kk : mj_V g l y d (pc + 1) lv (.int 6 :: st) M nx kc ks Q) : mj_V g l y d pc lv (.ref 2 :: st) M nx kc ks Q := by
  intro p e R s m args below meth c H locs ls cells slots TC TS X hR hS hl h1 h2 h3 h4
  obtain ⟨hx, hb, hml, hr, hlk, hown, hnm, hts, hK, hZ, hfr, hlo, hg0⟩ := id X
  exact va_tlen hx hb hZ.2.2.1.2 hS (by rfl) hd (kk p e R s m args below meth c H locs ls cells slots TC TS X hR hS hl h1 h2 h3 h4)
theorem mv_iald2 {i v : Int32} (hd : decode y.2.1 pc = .ok (.iaload, 1)) (hin : vp_in i 6) (hv : mj_rl.getD i.toNatClampNeg .null = .int v) (kk : mj_V g l y d (pc + 1) lv (.int v :: st) M nx kc ks Q) : mj_V g l y d pc lv (.int i :: .ref 2 :: st) M nx kc ks Q := by
  intro p e R s m args below meth c H locs ls cells slots TC TS X hR hS hl h1 h2 h3 h4
  obtain ⟨hx, hb, hml, hr, hlk, hown, hnm, hts, hK, hZ, hfr, hlo, hg0⟩ := id X
  exact va_ti hx hb hZ.2.2.1.2 hS hin hv hd (kk p e R s m args below meth c H locs ls cells slots TC TS X hR hS hl h1 h2 h3 h4)
theorem mv_alen3 (hd : decode y.2.1 pc = .ok (.arraylength, 1)) (kk : mj_V g l y d (pc + 1) lv (.int 6 :: st) M nx kc ks Q) : mj_V g l y d pc lv (.ref 3 :: st) M nx kc ks Q := by
  intro p e R s m args below meth c H locs ls cells slots TC TS X hR hS hl h1 h2 h3 h4
  obtain ⟨hx, hb, hml, hr, hlk, hown, hnm, hts, hK, hZ, hfr, hlo, hg0⟩ := id X
  exact va_tlen hx hb hZ.2.2.2.1.2 hS (by rfl) hd (kk p e R s m args below meth c H locs ls cells slots TC TS X hR hS hl h1 h2 h3 h4)
theorem mv_iald3 {i v : Int32} (hd : decode y.2.1 pc = .ok (.iaload, 1)) (hin : vp_in i 6) (hv : mj_rm.getD i.toNatClampNeg .null = .int v) (kk : mj_V g l y d (pc + 1) lv (.int v :: st) M nx kc ks Q) : mj_V g l y d pc lv (.int i :: .ref 3 :: st) M nx kc ks Q := by
  intro p e R s m args below meth c H locs ls cells slots TC TS X hR hS hl h1 h2 h3 h4
  obtain ⟨hx, hb, hml, hr, hlk, hown, hnm, hts, hK, hZ, hfr, hlo, hg0⟩ := id X
  exact va_ti hx hb hZ.2.2.2.1.2 hS hin hv hd (kk p e R s m args below meth c H locs ls cells slots TC TS X hR hS hl h1 h2 h3 h4)
theorem mv_castN {index : Nat} (hd : decode y.2.1 pc = .ok (.checkcast index, 3)) (kk : mj_V g l y d (pc + 3) lv (.null :: st) M nx kc ks Q) : mj_V g l y d pc lv (.null :: st) M nx kc ks Q := by
  intro p e R s m args below meth c H locs ls cells slots TC TS X hR hS hl h1 h2 h3 h4
  obtain ⟨hx, hb, hml, hr, hlk, hown, hnm, hts, hK, hZ, hfr, hlo, hg0⟩ := id X
  exact lv_castN hx hb hd (kk p e R s m args below meth c H locs ls cells slots TC TS X hR hS hl h1 h2 h3 h4)
theorem mv_castY {index a ci : Nat} {fs : List Value} {C nm : String} {T : u_T} {N : Nat} (hd : decode y.2.1 pc = .ok (.checkcast index, 3)) (hw : Cond.classLink y.1.cls index nm ∈ mj_T) (hM : M a = some (.inr (ci, fs))) (hc : kcl[ci]? = some (C, T, N)) (hca : Cond.castable C nm ∈ mj_T) (kk : mj_V g l y d (pc + 3) lv (.ref a :: st) M nx kc ks Q) : mj_V g l y d pc lv (.ref a :: st) M nx kc ks Q := by
  intro p e R s m args below meth c H locs ls cells slots TC TS X hR hS hl h1 h2 h3 h4
  obtain ⟨hx, hb, hml, hr, hlk, hown, hnm, hts, hK, hZ, hfr, hlo, hg0⟩ := id X
  exact va_castY hx hb hown (hts _ hw) (va_Nw.of rfl (hts _ hca)) (va_recv hK (mj_one (hR.1 a _ hM).2.2) hc (q0 := 0) rfl) hd (kk p e R s m args below meth c H locs ls cells slots TC TS X hR hS hl h1 h2 h3 h4)
theorem mv_castA {index a n : Nat} {f : Nat → Int32} (hd : decode y.2.1 pc = .ok (.checkcast index, 3)) (hw : Cond.classLink y.1.cls index "[I" ∈ mj_T) (hM : M a = some (.inl (0, n, .inl f))) (kk : mj_V g l y d (pc + 3) lv (.ref a :: st) M nx kc ks Q) : mj_V g l y d pc lv (.ref a :: st) M nx kc ks Q := by
  intro p e R s m args below meth c H locs ls cells slots TC TS X hR hS hl h1 h2 h3 h4
  obtain ⟨hx, hb, hml, hr, hlk, hown, hnm, hts, hK, hZ, hfr, hlo, hg0⟩ := id X
  exact va_castA hx hb hown (hts _ hw) (mj_one (hR.1 a _ hM).2.2) 0 rfl (va_nm_int (hK.2 0 _ rfl).2) hd (kk p e R s m args below meth c H locs ls cells slots TC TS X hR hS hl h1 h2 h3 h4)
theorem mv_iret {v : Int32} {ty : FieldType} (hd : decode y.2.1 pc = .ok (.ireturn, 1)) (hr9 : y.2.2.2 = some ty) (hn : narrow ty (.int v) = .int v) (hq : Q (some (.int v)) M nx) : mj_V g l y d pc lv [.int v] M nx kc ks Q := by
  intro p e R s m args below meth c H locs ls cells slots TC TS X hR hS hl h1 h2 h3 h4
  obtain ⟨hx, hb, hml, hr, hlk, hown, hnm, hts, hK, hZ, hfr, hlo, hg0⟩ := id X
  refine W.widen (k := TC) (n := TS) (by omega) (by omega) ?_
  exact W.zret hx hb (hr.trans hr9) hn (fun t ht hW => ⟨⟨_, M, nx, rfl, hq, by rw [ht]; exact hR⟩, hS.F ht⟩) hS.2.2 hd hlk
theorem mv_lret {v : Int64} (hd : decode y.2.1 pc = .ok (.lreturn, 1)) (hr9 : y.2.2.2 = some .long) (hq : Q (some (.long v)) M nx) : mj_V g l y d pc lv [.long v] M nx kc ks Q := by
  intro p e R s m args below meth c H locs ls cells slots TC TS X hR hS hl h1 h2 h3 h4
  obtain ⟨hx, hb, hml, hr, hlk, hown, hnm, hts, hK, hZ, hfr, hlo, hg0⟩ := id X
  refine W.widen (k := TC) (n := TS) (by omega) (by omega) ?_
  exact W.lret hx hb (hr.trans hr9) (fun t ht hW => ⟨⟨_, M, nx, rfl, hq, by rw [ht]; exact hR⟩, hS.F ht⟩) hS.2.2 hd hlk
theorem mv_vret  (hd : decode y.2.1 pc = .ok (.return_, 1)) (hr9 : y.2.2.2 = none) (hq : Q none M nx) : mj_V g l y d pc lv [] M nx kc ks Q := by
  intro p e R s m args below meth c H locs ls cells slots TC TS X hR hS hl h1 h2 h3 h4
  obtain ⟨hx, hb, hml, hr, hlk, hown, hnm, hts, hK, hZ, hfr, hlo, hg0⟩ := id X
  refine W.widen (k := TC) (n := TS) (by omega) (by omega) ?_
  exact W.vret hx hb (hr.trans hr9) (fun t ht hW => ⟨⟨_, M, nx, rfl, hq, by rw [ht]; exact hR⟩, hS.F ht⟩) hS.2.2 hd hlk
theorem mv_aret {r : Option Nat} {ty : FieldType} (hd : decode y.2.1 pc = .ok (.areturn, 1)) (hr9 : y.2.2.2 = some ty) (hty : (∃ n, ty = .object n) ∨ ∃ t, ty = .array t) (hq : Q (some (va_rf r)) M nx) : mj_V g l y d pc lv [va_rf r] M nx kc ks Q := by
  intro p e R s m args below meth c H locs ls cells slots TC TS X hR hS hl h1 h2 h3 h4
  obtain ⟨hx, hb, hml, hr, hlk, hown, hnm, hts, hK, hZ, hfr, hlo, hg0⟩ := id X
  refine W.widen (k := TC) (n := TS) (by omega) (by omega) ?_
  exact W.aret (v := mj_v g (va_rf r)) hx hb (hr.trans hr9) hty (by cases r <;> first | exact Or.inl rfl | exact Or.inr ⟨_, rfl⟩) (fun t ht hW => ⟨⟨_, M, nx, rfl, hq, by rw [ht]; exact hR⟩, hS.F ht⟩) hS.2.2 hd hlk
/-- behind a call -/
theorem mj_back {p : Program} {e : Env} {R : Room} {s : State} {m : MethodId} {args : Array Value} {below : List Frame} {meth : Method} {c : Code} {H : Heap} {locs : List Loc} {cells slots mc ms : Nat} {ls : Array Slot} {st0 rest : List Value} {a : Array Value} {Q' : Option Value → mj_M → Nat → Prop} {Qf : State → Prop}
    (hr : va_Run p l e R s m args below meth c H locs cells slots mc ms (F0 m pc ls st0) rest (mj_Q g Q' a) (mj_A g)) (hS : va_S (mj_A g) s.heap H locs)
    (kk : ∀ (r : Option Value) (M' : mj_M) (nx' : Nat) (H1 : Heap) (locs1 : List Loc), Q' r M' nx' → mj_R g M' nx' H1 → va_S (mj_A g) s.heap H1 locs1 → W p l e R s m args below meth c H1 locs1 (cells + mc) (slots + ms) Qf (F0 m (pc + 3) ls ((r.map (mj_v g)).toList ++ rest))) : W p l e R s m args below meth c H locs cells slots Qf (F0 m pc ls st0) := by
  intro T hT X
  obtain ⟨v, st₀, t, T', L, h0, X', hL, e1, e2, ⟨⟨r, M', nx', hv, hq, hR'⟩, hz, hk⟩, st9⟩ := hr T hT X
  cases hv
  rw [h0] at hz hk
  obtain ⟨t2, a1, b1⟩ := kk r M' nx' T'.heap (locs ++ L) hq (by rw [e1]; exact hR')
    ⟨Nat.le_trans hS.1 (by rw [e1]; exact hz), fun q h1 h2 => by rw [e1, hk q (Nat.lt_of_lt_of_le h1 hS.1) h2]; exact hS.2.1 q h1 h2, fun q hq => by
      rcases List.mem_append.mp hq with h | h
      · exact hS.2.2 q h
      · exact hL q h⟩ T' rfl X'
  exact ⟨t2, st9 t2 a1, b1⟩
theorem mj_Pc_blind {g : mj_G} {As : List Value} {M : mj_M} {nx : Nat} : FrameBlind (mj_Pc g As M nx) := fun a U g9 mk h =>
  ⟨h.1, h.2.1, va_K.moved (u := U) (U := U.calling g9 mk a) (Vm.Alike.refl U.vm) h.2.2.1, mj_Z.same (s := U) (U := U.calling g9 mk a) rfl h.2.2.2⟩
theorem mj_Pc_at {g : mj_G} {y : mj_Y} {d : Nat} {p : Program} {R : Room} {s : State} {m : MethodId} {args : Array Value} {meth : Method} {c : Code} {M : mj_M} {nx : Nat} {H : Heap} {locs : List Loc} {As : List Value} (X : mj_X g y d p R s m args meth c) (hR : mj_R g M nx H) (hS : va_S (mj_A g) s.heap H locs) : ∀ U : State, U.heap = H → s.WarmedH U.vm → mj_Pc g As M nx (As.map (mj_v g)).toArray U := by
  intro U hU hW
  obtain ⟨hx, hb, hml, hr, hlk, hown, hnm, hts, hK, hZ, hfr, hlo, hg0⟩ := id X
  refine ⟨rfl, by rw [hU]; exact hR, va_K.moved hW.alike hK, ?_⟩
  rw [hU]
  exact (hZ.kept fun a h1 h2 => hS.2.1 a h1 h2).warm hW
/-- what a call asks of the tables: n arguments behind the receiver -/
def mj_lB (own : String) (index : Nat) (y : mj_Y) (n : Nat) : Prop := Cond.methodLink own index y.1 ∈ mj_T ∧ Cond.initialized y.1.cls ∈ mj_T ∧ Cond.code y.1 y.2.1 y.2.2.1 y.2.2.2 ∈ mj_T ∧ (y.1.cls ≠ "java/lang/invoke/MethodHandle" ∧ y.1.cls ≠ "java/lang/invoke/VarHandle") ∧ (parseMethodDescriptor y.1.desc).map (fun d => d.parameters.length) = some n ∧ y.2.2.1 ≤ 80
def mj_lV (own : String) (index : Nat) (y : mj_Y) (n : Nat) : Prop := mj_lB own index y n ∧ Cond.instanceMethod y.1 ∈ mj_T ∧ Cond.selects y.1.cls y.1 y.1 ∈ mj_T
def mj_lS (own : String) (index : Nat) (y : mj_Y) (n : Nat) : Prop := mj_lB own index y n ∧ Cond.static y.1 ∈ mj_T
def mj_lI (own : String) (index : Nat) (y : mj_Y) (n : Nat) : Prop := mj_lB own index y n ∧ y.1.name = "<init>" ∧ Cond.instanceMethod y.1 ∈ mj_T ∧ y.2.2.2 = none
theorem mj_cB {R : Room} {s : State} {args : Array Value} {own : String} {index n d kc ks : Nat} {y2 : mj_Y} (hts : ∀ w ∈ mj_T, w.before args s = true) (h : mj_lB own index y2 n) (hfr : d + 1 ≤ R.frames) (hlo : 100 * (d + 1) ≤ R.locals) : CallB R s args own index y2.1 y2.2.1 y2.2.2.1 y2.2.2.2 (mj_ws y2) (mj_rm0 d kc ks) kc ks n := by
  obtain ⟨a1, a2, a3, a4, a5, a6⟩ := h
  refine ⟨rfl, rfl, hfr, ?_, fun w hw => ?_, List.mem_cons_self, hts _ a3, hts _ a2, a4, fun sig hsig => ?_, hts _ a1⟩
  · show 8 + (y2.2.2.1 + 11) + 100 * d ≤ R.locals
    omega
  · rcases List.mem_cons.mp hw with rfl | hw
    · exact mj_pay hts _ a3
    · exact mj_pay hts w hw
  · rw [hsig] at a5
    exact (Option.some.inj a5).symm
theorem mj_room {g : mj_G} {m : MethodId} {pc : Nat} {ls : Array Slot} {st9 : List Value} {st : List Value} (h : (st.map fun v => v.category).sum ≤ 8) : 2 * (F0 m pc ls st9).monitorRoom + ((st.map (mj_v g)).map fun v => v.category).sum ≤ 8 := by
  rw [mj_cats]
  exact lv_room h
/-- invokevirtual of a method of the receiver's own class (private ones too) -/
theorem mv_callV {index n kc1 ks1 kc' ks' a ci : Nat} {fs : List Value} {T : u_T} {N : Nat} {y2 : mj_Y} {As : List Value} {Q' : Option Value → mj_M → Nat → Prop} (hd : decode y.2.1 pc = .ok (.invokevirtual index, 3)) (hw : mj_lV y.1.cls index y2 n) (hM : M a = some (.inr (ci, fs))) (hc : kcl[ci]? = some (y2.1.cls, T, N)) (hm : mj_Met g l y2 d (.ref a :: As) M nx kc1 ks1 Q') (hn : As.length = n) (hcat : (st.map fun v => v.category).sum ≤ 8) (hkc : kc' + kc1 ≤ kc) (hks : ks' + ks1 ≤ ks) (st9 : List Value) (hst : As.reverse ++ .ref a :: st = st9)
    (kk : ∀ (r : Option Value) (M' : mj_M) (nx' : Nat), Q' r M' nx' → mj_V g l y (d + 1) (pc + 3) lv (r.toList ++ st) M' nx' kc' ks' Q) : mj_V g l y (d + 1) pc lv st9 M nx kc ks Q := by
  intro p e R s m args below meth c H locs ls cells slots TC TS X hR hS hl h1 h2 h3 h4
  obtain ⟨hx, hb, hml, hr, hlk, hown, hnm, hts, hK, hZ, hfr, hlo, hg0⟩ := id X
  subst hst
  obtain ⟨hw1, hw2, hw3⟩ := hw
  have hrun := va_runV (e := e) (below := below) (meth := meth) (m := m) (cells := cells) (slots := slots) (locs := locs) (g := F0 m pc ls ((As.reverse ++ .ref a :: st).map (mj_v g))) (rest := st.map (mj_v g)) (As := As.map (mj_v g)) (b := mj_r g a) (H := H) ⟨hx, hb, hml, hown, hts⟩ hm ⟨mj_cB hts hw1 hfr hlo, hts _ hw2, hts _ hw3⟩ ⟨mj_Pc_blind, va_recv hK (mj_one (hR.1 a _ hM).2.2) hc (q0 := 0) rfl, mj_Pc_at (As := .ref a :: As) X hR hS⟩ rfl (by rw [List.length_map]; exact hn) hl.1 (by simp only [List.map_append, List.map_reverse, List.map_cons]; rfl) (mj_room hcat) hd ⟨by omega, by omega⟩
  refine mj_back hrun hS fun r M' nx' H1 locs1 hq hR1 hS1 => ?_
  have h9 := kk r M' nx' hq p e R s m args below meth c H1 locs1 ls (cells + kc1) (slots + ks1) TC TS X hR1 hS1 hl (by omega) (by omega) h3 h4
  refine W.eq ?_ h9
  cases r <;> rfl
theorem mv_callS {index n kc1 ks1 kc' ks' : Nat} {y2 : mj_Y} {As : List Value} {Q' : Option Value → mj_M → Nat → Prop} (hd : decode y.2.1 pc = .ok (.invokestatic index, 3)) (hw : mj_lS y.1.cls index y2 n) (hm : mj_Met g l y2 d As M nx kc1 ks1 Q') (hn : As.length = n) (hcat : (st.map fun v => v.category).sum ≤ 8) (hkc : kc' + kc1 ≤ kc) (hks : ks' + ks1 ≤ ks) (st9 : List Value) (hst : As.reverse ++ st = st9)
    (kk : ∀ (r : Option Value) (M' : mj_M) (nx' : Nat), Q' r M' nx' → mj_V g l y (d + 1) (pc + 3) lv (r.toList ++ st) M' nx' kc' ks' Q) : mj_V g l y (d + 1) pc lv st9 M nx kc ks Q := by
  intro p e R s m args below meth c H locs ls cells slots TC TS X hR hS hl h1 h2 h3 h4
  obtain ⟨hx, hb, hml, hr, hlk, hown, hnm, hts, hK, hZ, hfr, hlo, hg0⟩ := id X
  subst hst
  obtain ⟨hw1, hw2⟩ := hw
  have hrun := va_runS (e := e) (below := below) (meth := meth) (m := m) (cells := cells) (slots := slots) (locs := locs) (g := F0 m pc ls ((As.reverse ++ st).map (mj_v g))) (rest := st.map (mj_v g)) (As := As.map (mj_v g)) (H := H) ⟨hx, hb, hml, hown, hts⟩ hm ⟨mj_cB hts hw1 hfr hlo, hts _ hw2⟩ ⟨mj_Pc_blind, mj_Pc_at (As := As) X hR hS⟩ rfl (by rw [List.length_map]; exact hn) hl.1 (by simp only [List.map_append, List.map_reverse]) (mj_room hcat) hd ⟨by omega, by omega⟩
  refine mj_back hrun hS fun r M' nx' H1 locs1 hq hR1 hS1 => ?_
  have h9 := kk r M' nx' hq p e R s m args below meth c H1 locs1 ls (cells + kc1) (slots + ks1) TC TS X hR1 hS1 hl (by omega) (by omega) h3 h4
  refine W.eq ?_ h9
  cases r <;> rfl
theorem mv_callI {index n kc1 ks1 kc' ks' a : Nat} {y2 : mj_Y} {As : List Value} {Q' : Option Value → mj_M → Nat → Prop} (hd : decode y.2.1 pc = .ok (.invokespecial index, 3)) (hw : mj_lI y.1.cls index y2 n) (hm : mj_Met g l y2 d (.ref a :: As) M nx kc1 ks1 Q') (hn : As.length = n) (hcat : (st.map fun v => v.category).sum ≤ 8) (hkc : kc' + kc1 ≤ kc) (hks : ks' + ks1 ≤ ks) (st9 : List Value) (hst : As.reverse ++ .ref a :: st = st9)
    (kk : ∀ (r : Option Value) (M' : mj_M) (nx' : Nat), Q' r M' nx' → mj_V g l y (d + 1) (pc + 3) lv (r.toList ++ st) M' nx' kc' ks' Q) : mj_V g l y (d + 1) pc lv st9 M nx kc ks Q := by
  intro p e R s m args below meth c H locs ls cells slots TC TS X hR hS hl h1 h2 h3 h4
  obtain ⟨hx, hb, hml, hr, hlk, hown, hnm, hts, hK, hZ, hfr, hlo, hg0⟩ := id X
  subst hst
  obtain ⟨hw1, hw2, hw3, hw4⟩ := hw
  have hcb := mj_cB (kc := kc1) (ks := ks1) hts hw1 hfr hlo
  rw [hw4] at hcb
  have hrun := va_runI (e := e) (below := below) (meth := meth) (m := m) (cells := cells) (slots := slots) (locs := locs) (g := F0 m pc ls ((As.reverse ++ .ref a :: st).map (mj_v g))) (rest := st.map (mj_v g)) (As := As.map (mj_v g)) (b := mj_r g a) (H := H) ⟨hx, hb, hml, hown, hts⟩ hm ⟨hcb, hw2, hts _ hw3⟩ ⟨mj_Pc_blind, mj_Pc_at (As := .ref a :: As) X hR hS⟩ rfl (by rw [List.length_map]; exact hn) hl.1 (by simp only [List.map_append, List.map_reverse, List.map_cons]; rfl) (mj_room hcat) hd ⟨by omega, by omega⟩
  refine mj_back hrun hS fun r M' nx' H1 locs1 hq hR1 hS1 => ?_
  have h9 := kk r M' nx' hq p e R s m args below meth c H1 locs1 ls (cells + kc1) (slots + ks1) TC TS X hR1 hS1 hl (by omega) (by omega) h3 h4
  refine W.eq ?_ h9
  cases r <;> rfl
theorem mj_oi : Cond.instanceMethod objectInit ∈ mj_T ∧ Cond.code objectInit ⟨#[0xb1]⟩ 1 none ∈ mj_T := ⟨mj_in1 (by decide +kernel) rfl, mj_in1 (by decide +kernel) rfl⟩
/-- Object() -/
theorem mv_oinit {index a : Nat} (hd : decode y.2.1 pc = .ok (.invokespecial index, 3)) (hw : Cond.methodLink y.1.cls index objectInit ∈ mj_T) (hcat : (st.map fun v => v.category).sum ≤ 8) (kk : mj_V g l y (d + 1) (pc + 3) lv st M nx kc ks Q) : mj_V g l y (d + 1) pc lv (.ref a :: st) M nx kc ks Q := by
  intro p e R s m args below meth c H locs ls cells slots TC TS X hR hS hl h1 h2 h3 h4
  obtain ⟨hx, hb, hml, hr, hlk, hown, hnm, hts, hK, hZ, hfr, hlo, hg0⟩ := id X
  have hc9 := mj_room (g := g) (m := m) (pc := pc) (ls := ls) (st9 := (Value.ref a :: st).map (mj_v g)) hcat
  refine W.objInit hx hb hown (hts _ hw) (hts _ mj_oi.1) (hts _ mj_oi.2) rfl (hl.1.trans hml.symm) rfl hd (by omega) (by omega) ?_
  exact kk p e R s m args below meth c H locs ls cells slots TC TS X hR hS hl h1 h2 h3 h4
/-- THE HEAD OF A METHOD -/
theorem mj_enter {As : List Value} (hy : plainName y.1.cls = true) (hn : (lg_sl As).length ≤ y.2.2.1) (h : mj_V g l y d 0 (lv_args 0 As) [] M nx kc ks Q) : mj_Met g l y d As M nx kc ks Q := by
  refine Met.ofW (cc := y.2.1) (maxL := y.2.2.1) (ret := y.2.2.2) hy rfl ?_
  intro p e s m args below meth c s₁ B hml hv
  obtain ⟨rfl, hR, hK, hZ⟩ := hv
  have hts0 := atoms_spec (ws := mj_ws y) B.pre
  have hl := lv_entry (As.map (mj_v g)) (n := y.2.2.1) (by
    have : ∀ L : List Value, (lg_sl (L.map (mj_v g))).length = (lg_sl L).length := by
      intro L
      induction L with
      | nil => rfl
      | cons v r ih => cases v <;> simp_all [lg_sl, mj_v, Value.category]
    rw [this]; exact hn)
  rw [lg_entry_eq]
  generalize (lg_sl (As.map (mj_v g)) ++ List.replicate (y.2.2.1 - (lg_sl (As.map (mj_v g))).length) Slot.unset).toArray = ls at hl ⊢
  rw [mj_args] at hl
  have hge : g.1 ≤ s.heap.size := by
    rw [hR.2.2, mj_r_ge hR.2.1]
    omega
  exact h p e _ s m _ below meth c s.heap [] ls 0 0 kc ks ⟨B.exec, B.bytes, hml, B.returns, B.notSynchronized, findClass_of_methodNamed B.named, (fun h9 => (name_of_methodNamed B.named B.method).1.trans h9), fun w hw => hts0 w (List.mem_cons_of_mem _ hw), hK, hZ, Nat.le_refl _, Nat.le_refl _, hge⟩ hR va_S.rf hl (by omega) (by omega) (Nat.le_refl _) (Nat.le_refl _)
end MA
