/-! A SMALL MACHINE OVER THE KIT'S: memory by logical addresses (64 and on: what the run makes, in its order; below: constants), one judgement mj_V at a place of a method, a rule an instruction. -/
abbrev mj_C : Type := (Nat × vp_A) ⊕ (Nat × List Value)
abbrev mj_M : Type := Nat → Option mj_C
/-- what a run is given: the first address that it makes, the classes' numbers and slots, the array classes (0 int, 1 long, 2 boolean, 3 byte, 4 Object), the constants' addresses, the script's length and ints -/
abbrev mj_G : Type := Nat × va_G × (Nat → ClassId) × (Nat → Nat) × Nat × (Nat → Int32)
/-- a method: name, bytes, locals, what it returns -/
abbrev mj_Y : Type := MethodName × ByteArray × Nat × Option FieldType
def mj_r (g : mj_G) (n : Nat) : Nat := if n < 64 then g.2.2.2.1 n else g.1 + (n - 64)
def mj_L (g : mj_G) : Nat := g.2.2.2.2.1
def mj_xs (g : mj_G) : Nat → Int32 := g.2.2.2.2.2
def mj_v (g : mj_G) (v : Value) : Value := match v with
  | .ref a => .ref (mj_r g a)
  | w => w
def mj_a (g : mj_G) (a : vp_A) : vp_A := (a.1, match a.2 with
  | .inl f => .inl f
  | .inr (.inl f) => .inr (.inl f)
  | .inr (.inr (.inl f)) => .inr (.inr (.inl f))
  | .inr (.inr (.inr (.inl f))) => .inr (.inr (.inr (.inl f)))
  | .inr (.inr (.inr (.inr f))) => .inr (.inr (.inr (.inr (fun j => (f j).map (mj_r g))))))
def mj_c (g : mj_G) (c : mj_C) : va_E := match c with
  | .inl x => .inl (g.2.2.1 x.1, mj_a g x.2)
  | .inr x => .inr (x.1, x.2.map (mj_v g))
def mj_p (g : mj_G) (q : Nat × Value) : Nat × Value := (q.1, mj_v g q.2)
def mj_tys (g : mj_G) : List (ClassId × FieldType) := [(g.2.2.1 0, .int), (g.2.2.1 1, .long), (g.2.2.1 2, .boolean), (g.2.2.1 3, .byte), (g.2.2.1 4, .object "java/lang/Object")]
/-- one cell written, or made -/
def mj_up (M : mj_M) (a : Nat) (c : mj_C) : mj_M := fun q => cond (Nat.beq q a) (some c) (M q)
def mj_A (g : mj_G) : Nat → Prop := fun q => g.1 ≤ q
/-- the heap holds the memory -/
def mj_R (g : mj_G) (M : mj_M) (nx : Nat) (H : Heap) : Prop := (∀ (a : Nat) (c : mj_C), M a = some c → 64 ≤ a ∧ a < nx ∧ va_at g.2.1 kcl (mj_r g a, mj_c g c) H) ∧ 64 ≤ nx ∧ H.size = mj_r g nx
def mj_K (g : mj_G) (U : State) : Prop := va_K g.2.1 kcl (mj_tys g) U
/-- the String constants: whose, which entry, the text, the logical address -/
def mj_strs : List (String × Nat × String × Nat) := [("TrustDesk$Reader", 264, "poor maids boys sick bread coal rent lake income coin living dead marks", 10), ("TrustDesk$Reader", 270, "fail keep days late gain sell near join sale strike bar mark trust end pays if part not and or", 11), ("TrustDesk", 444, "no such fund", 12), ("TrustDesk", 461, "no such question", 13), ("TrustDeskModel", 351, "fail", 14), ("TrustDeskModel", 353, "keep", 15), ("TrustDeskModel", 355, "days", 16), ("TrustDeskModel", 357, "late", 17), ("TrustDeskModel", 359, "gain", 18), ("TrustDeskModel", 361, "sell", 19), ("TrustDeskModel", 363, "bar", 20), ("TrustDeskModel", 368, "near", 21), ("TrustDeskModel", 370, "join", 22), ("TrustDeskModel", 372, "sale", 23), ("TrustDeskModel", 374, "strike", 24), ("TrustDeskModel", 333, "if", 25), ("TrustDeskModel", 300, "not", 26), ("TrustDeskModel", 248, "poor", 27), ("TrustDeskModel", 250, "maids", 28), ("TrustDeskModel", 252, "boys", 29), ("TrustDeskModel", 254, "sick", 30), ("TrustDeskModel", 256, "bread", 31), ("TrustDeskModel", 258, "coal", 32), ("TrustDeskModel", 260, "rent", 33), ("TrustDeskModel", 262, "lake", 34), ("TrustDeskModel", 264, "income", 35), ("TrustDeskModel", 266, "coin", 36), ("TrustDeskModel", 271, "living", 37), ("TrustDeskModel", 273, "dead", 38), ("TrustDeskModel", 275, "marks", 39), ("TrustDeskModel", 310, "and", 40), ("TrustDeskModel", 315, "or", 41), ("TrustDeskModel", 336, "end", 42), ("TrustDeskModel", 338, "mark", 43), ("TrustDeskModel", 340, "trust", 44), ("TrustDeskModel", 327, "pays", 45), ("TrustDeskModel", 335, "part", 46)]
def mj_rw : List Value := [.int 3, .int 1, .int 30, .int 90, .int 0, .int 20]
def mj_rl : List Value := [.int 1, .int 0, .int 1, .int 1, .int 0, .int 1]
def mj_rm : List Value := [.int 50, .int 8, .int 360, .int 720, .int 20, .int 40]
/-- a constant int array, its cell exactly -/
def mj_E (t N : Nat) (f : Nat → Value) (A : Nat → Prop) (U : State) (H : Heap) : Prop := ∃ cell : Cell, H[t]? = some cell ∧ cell.vm ≠ .unknown ∧ (∀ k, cell.vm ≠ .statics k) ∧ U.vm.findClass "[I" = some cell.cls ∧ cell.slots.size = N ∧ (∀ j : Nat, j < N → cell.slots[j]? = some (f j)) ∧ ¬ A t
theorem mj_E.moved {t N : Nat} {f : Nat → Value} {A : Nat → Prop} {u U : State} {H : Heap} (hvm : u.vm.Alike U.vm) (h : mj_E t N f A u H) : mj_E t N f A U H := by
  obtain ⟨cell, h1, h2, h3, h4, h5⟩ := h
  exact ⟨cell, h1, h2, h3, by rw [hvm.findClass]; exact h4, h5⟩
theorem mj_E.kept {t N : Nat} {f : Nat → Value} {A : Nat → Prop} {U : State} {H H1 : Heap} (h : mj_E t N f A U H) (hq : ∀ a : Nat, a < H.size → ¬ A a → H1[a]? = H[a]?) : mj_E t N f A U H1 := by
  obtain ⟨cell, h1, h2, h3, h4, h5, h6, h7⟩ := h
  exact ⟨cell, by rw [hq t (Array.getElem?_eq_some_iff.mp h1).1 h7]; exact h1, h2, h3, h4, h5, h6, h7⟩
/-- the Strings' bytes, in the order of mj_strs -/
def mj_byt : List (List Int32) := [[112, 111, 111, 114, 32, 109, 97, 105, 100, 115, 32, 98, 111, 121, 115, 32, 115, 105, 99, 107, 32, 98, 114, 101, 97, 100, 32, 99, 111, 97, 108, 32, 114, 101, 110, 116, 32, 108, 97, 107, 101, 32, 105, 110, 99, 111, 109, 101, 32, 99, 111, 105, 110, 32, 108, 105, 118, 105, 110, 103, 32, 100, 101, 97, 100, 32, 109, 97, 114, 107, 115], [102, 97, 105, 108, 32, 107, 101, 101, 112, 32, 100, 97, 121, 115, 32, 108, 97, 116, 101, 32, 103, 97, 105, 110, 32, 115, 101, 108, 108, 32, 110, 101, 97, 114, 32, 106, 111, 105, 110, 32, 115, 97, 108, 101, 32, 115, 116, 114, 105, 107, 101, 32, 98, 97, 114, 32, 109, 97, 114, 107, 32, 116, 114, 117, 115, 116, 32, 101, 110, 100, 32, 112, 97, 121, 115, 32, 105, 102, 32, 112, 97, 114, 116, 32, 110, 111, 116, 32, 97, 110, 100, 32, 111, 114], [110, 111, 32, 115, 117, 99, 104, 32, 102, 117, 110, 100], [110, 111, 32, 115, 117, 99, 104, 32, 113, 117, 101, 115, 116, 105, 111, 110], [102, 97, 105, 108], [107, 101, 101, 112], [100, 97, 121, 115], [108, 97, 116, 101], [103, 97, 105, 110], [115, 101, 108, 108], [98, 97, 114], [110, 101, 97, 114], [106, 111, 105, 110], [115, 97, 108, 101], [115, 116, 114, 105, 107, 101], [105, 102], [110, 111, 116], [112, 111, 111, 114], [109, 97, 105, 100, 115], [98, 111, 121, 115], [115, 105, 99, 107], [98, 114, 101, 97, 100], [99, 111, 97, 108], [114, 101, 110, 116], [108, 97, 107, 101], [105, 110, 99, 111, 109, 101], [99, 111, 105, 110], [108, 105, 118, 105, 110, 103], [100, 101, 97, 100], [109, 97, 114, 107, 115], [97, 110, 100], [111, 114], [101, 110, 100], [109, 97, 114, 107], [116, 114, 117, 115, 116], [112, 97, 121, 115], [112, 97, 114, 116]]
/-- a String at q, its bytes at v -/
def mj_st (q v : Nat) (B : List Int32) (A : Nat → Prop) (U : State) (H : Heap) : Prop := va_O "java/lang/String" q A U H ∧ va_OF "java/lang/String" "coder" "B" (.int 0) q A U H ∧ va_OF "java/lang/String" "value" "[B" (.ref v) q A U H ∧ va_T .byte v B.length (fun j => .int (B.getD j 0)) A U H
theorem mj_st.moved {q v : Nat} {B : List Int32} {A : Nat → Prop} {u U : State} {H : Heap} (hvm : u.vm.Alike U.vm) (h : mj_st q v B A u H) : mj_st q v B A U H := ⟨h.1.moved hvm, h.2.1.moved hvm, h.2.2.1.moved hvm, h.2.2.2.moved hvm⟩
theorem mj_st.kept {q v : Nat} {B : List Int32} {A : Nat → Prop} {U : State} {H H1 : Heap} (h : mj_st q v B A U H) (hq : ∀ a : Nat, a < H.size → ¬ A a → H1[a]? = H[a]?) : mj_st q v B A U H1 := ⟨h.1.kept hq, h.2.1.kept hq, h.2.2.1.kept hq, h.2.2.2.kept hq⟩
theorem mj_st.narrow {q v : Nat} {B : List Int32} {A A1 : Nat → Prop} {U : State} {H : Heap} (h : mj_st q v B A U H) (hA : ∀ q, A1 q → A q) : mj_st q v B A1 U H := ⟨h.1.narrow hA, h.2.1.narrow hA, h.2.2.1.narrow hA, h.2.2.2.narrow hA⟩
/-- the Strings: what they hold; the one that is looked into (4, its bytes 5, its number 6); whose formatter a wrong index is told to (7, or null) -/
def mj_Zs (g : mj_G) (U : State) (H : Heap) : Prop := va_Z "java/lang/String" "COMPACT_STRINGS" "Z" (.int 1) (mj_A g) U H ∧ (va_Z "jdk/internal/util/Preconditions" "SIOOBE_FORMATTER" "Ljava/util/function/BiFunction;" .null (mj_A g) U H ∨ va_Z "jdk/internal/util/Preconditions" "SIOOBE_FORMATTER" "Ljava/util/function/BiFunction;" (.ref (mj_r g 7)) (mj_A g) U H) ∧ (∀ i, i < 37 → ∃ v : Nat, mj_st (mj_r g (10 + i)) v (mj_byt.getD i []) (mj_A g) U H) ∧ mj_st (mj_r g 4) (mj_r g 5) (mj_byt.getD (mj_r g 6) []) (mj_A g) U H ∧ va_Mi "[Ljava/lang/Object;" (mj_r g 8) U
theorem mj_Zs.kept {g : mj_G} {U : State} {H H1 : Heap} (h : mj_Zs g U H) (hq : ∀ a : Nat, a < H.size → ¬ mj_A g a → H1[a]? = H[a]?) : mj_Zs g U H1 :=
  ⟨h.1.kept hq, h.2.1.imp (fun z => z.kept hq) (fun z => z.kept hq), fun i hi => (h.2.2.1 i hi).imp fun _ z => z.kept hq, h.2.2.2.1.kept hq, h.2.2.2.2⟩
theorem mj_Zs.moved {g : mj_G} {s U : State} {H : Heap} (k : s.vm.Alike U.vm) (h : mj_Zs g s H) : mj_Zs g U H :=
  ⟨h.1.moved k, h.2.1.imp (fun z => z.moved k) (fun z => z.moved k), fun i hi => (h.2.2.1 i hi).imp fun _ z => z.moved k, h.2.2.2.1.moved k, h.2.2.2.2.moved k⟩
/-- the constants: statics that nobody writes, static arrays, Strings -/
def mj_Z (g : mj_G) (U : State) (H : Heap) : Prop :=
  (va_Z "java/util/ArrayList" "DEFAULTCAPACITY_EMPTY_ELEMENTDATA" "[Ljava/lang/Object;" (.ref (mj_r g 0)) (mj_A g) U H ∧ va_T (.object "java/lang/Object") (mj_r g 0) 0 (fun _ => .null) (mj_A g) U H) ∧
  (va_Z "TrustDesk" "RULE_WITHOUT" "[I" (.ref (mj_r g 1)) (mj_A g) U H ∧ mj_E (mj_r g 1) 6 (fun j => mj_rw.getD j .null) (mj_A g) U H) ∧
  (va_Z "TrustDesk" "RULE_LEAST" "[I" (.ref (mj_r g 2)) (mj_A g) U H ∧ va_T .int (mj_r g 2) 6 (fun j => mj_rl.getD j .null) (mj_A g) U H) ∧
  (va_Z "TrustDesk" "RULE_MOST" "[I" (.ref (mj_r g 3)) (mj_A g) U H ∧ va_T .int (mj_r g 3) 6 (fun j => mj_rm.getD j .null) (mj_A g) U H) ∧
  (va_X (mj_r g 50) (mj_L g) (mj_xs g) U H ∧ ¬ mj_A g (mj_r g 50)) ∧
  (vx_Zq Bundle.tN "UNASSIGNED_STACK" Bundle.steD (mj_A g) U H ∧ vx_Zq Bundle.tN "SUPPRESSED_SENTINEL" Bundle.listD (mj_A g) U H) ∧
  (∀ q ∈ mj_strs, vk_R q.1 q.2.1 q.2.2.1 (mj_r g q.2.2.2) U) ∧ mj_Zs g U H
theorem mj_Z.kept {g : mj_G} {U : State} {H H1 : Heap} (h : mj_Z g U H) (hq : ∀ a : Nat, a < H.size → ¬ mj_A g a → H1[a]? = H[a]?) : mj_Z g U H1 := by
  obtain ⟨⟨a1, a2⟩, ⟨b1, b2⟩, ⟨c1, c2⟩, ⟨d1, d2⟩, ⟨f1, f2⟩, ⟨e1, e2⟩, e, e9⟩ := h
  exact ⟨⟨a1.kept hq, a2.kept hq⟩, ⟨b1.kept hq, b2.kept hq⟩, ⟨c1.kept hq, c2.kept hq⟩, ⟨d1.kept hq, d2.kept hq⟩, ⟨f1.kept (hq _ (by obtain ⟨scr, z, -⟩ := f1; exact (Array.getElem?_eq_some_iff.mp z).1) f2), f2⟩, ⟨e1.kept hq, e2.kept hq⟩, e, e9.kept hq⟩
theorem mj_Z.warm {g : mj_G} {s U : State} {H : Heap} (hW : s.WarmedH U.vm) (h : mj_Z g s H) : mj_Z g U H := by
  obtain ⟨⟨a1, a2⟩, ⟨b1, b2⟩, ⟨c1, c2⟩, ⟨d1, d2⟩, ⟨f1, f2⟩, ⟨e1, e2⟩, e, e9⟩ := h
  have k := hW.alike
  exact ⟨⟨a1.moved k, a2.moved k⟩, ⟨b1.moved k, b2.moved k⟩, ⟨c1.moved k, c2.moved k⟩, ⟨d1.moved k, d2.moved k⟩, ⟨f1.moved k, f2⟩, ⟨e1.moved k, e2.moved k⟩, fun q hq => (e q hq).warm hW, e9.moved k⟩
theorem mj_Z.same {g : mj_G} {s U : State} {H : Heap} (hv : U.vm = s.vm) (h : mj_Z g s H) : mj_Z g U H := by
  obtain ⟨⟨a1, a2⟩, ⟨b1, b2⟩, ⟨c1, c2⟩, ⟨d1, d2⟩, ⟨f1, f2⟩, ⟨e1, e2⟩, e, e9⟩ := h
  have k : s.vm.Alike U.vm := by rw [hv]; exact Vm.Alike.refl _
  exact ⟨⟨a1.moved k, a2.moved k⟩, ⟨b1.moved k, b2.moved k⟩, ⟨c1.moved k, c2.moved k⟩, ⟨d1.moved k, d2.moved k⟩, ⟨f1.moved k, f2⟩, ⟨e1.moved k, e2.moved k⟩, fun q hq => (e q hq).same hv, e9.moved k⟩
/-- the words that every method is given: the steady ones of the tables -/
def mj_good (w : Cond) : Bool := (w.onTables && w.keeps) || (match w with
  | .arrayClass _ => true
  | .fieldLinkNest _ _ _ _ _ _ => true
  | .castable _ _ => true
  | .declares _ => true
  | .arrayOver (.object _) => true
  | _ => false)
def mj_T : List Cond := lw_tbl.filter mj_good
theorem mj_in {w : Cond} (h : w ∈ lw_tbl) (hg : mj_good w = true) : w ∈ mj_T := List.mem_filter.mpr ⟨h, hg⟩
theorem mj_in1 {w : Cond} (h : w ∈ tables_1) (hg : mj_good w = true) : w ∈ mj_T := mj_in (List.mem_append_right _ h) hg
theorem mj_pay {args : Array Value} {s : State} (hts : ∀ w ∈ mj_T, w.before args s = true) : ∀ w ∈ mj_T, ∀ (a' : Array Value) (U : State), s.WarmedH U.vm → w.before a' U = true := by
  intro w hw a' U hW
  have h1 := (List.mem_filter.mp hw).2
  have h0 := hts w hw
  cases w
  case arrayClass ty => exact word_at hW (Or.inr ⟨ty, rfl⟩) h0
  case fieldLinkNest a i b n d h => exact va_Nw.use rfl (va_Nw.warmF hW (va_Nw.of rfl h0))
  case castable a b => exact va_Nw.use rfl (va_Nw.warmC hW (va_Nw.of rfl h0))
  case declares x => exact mj_decl hW h0
  case arrayOver ty =>
    cases ty
    case object C => exact va_AO.use (va_AO.moved hW.alike (va_AO.of h0))
    all_goals exact word_at hW (Or.inl (by simpa [mj_good] using h1)) h0
  all_goals exact word_at hW (Or.inl (by simpa [mj_good] using h1)) h0
def mj_ws (y : mj_Y) : List Cond := Cond.code y.1 y.2.1 y.2.2.1 y.2.2.2 :: mj_T
/-- what holds in a method, from its entry on -/
def mj_X (g : mj_G) (y : mj_Y) (d : Nat) (p : Program) (R : Room) (s : State) (m : MethodId) (args : Array Value) (meth : Method) (c : Code) : Prop :=
  p.tables.exec = Jvm.exec ∧ c.code = y.2.1 ∧ c.maxLocals = y.2.2.1 ∧ meth.sig.returnType = y.2.2.2 ∧ meth.locks = false ∧ s.vm.findClass y.1.cls = some m.cls ∧ (y.1.name = "<init>" → meth.name = "<init>") ∧ (∀ w ∈ mj_T, w.before args s = true) ∧ mj_K g s ∧ mj_Z g s s.heap ∧ d ≤ R.frames ∧ 100 * d ≤ R.locals ∧ g.1 ≤ s.heap.size
/-- what holds behind a method -/
def mj_Q (g : mj_G) (Q : Option Value → mj_M → Nat → Prop) : Array Value → State → Outcome → State → Prop := fun _ st o t =>
  (∃ (r : Option Value) (M : mj_M) (nx : Nat), o = .returned (r.map (mj_v g)) ∧ Q r M nx ∧ mj_R g M nx t.heap) ∧ va_F (mj_A g) st t
/-- THE JUDGEMENT: from this place of the method y, at depth d (calls that may still be open), with these locals, operands and memory (nx: the next logical address), with room for kc cells of ks slots, y returns with Q -/
def mj_V (g : mj_G) (l : Launch) (y : mj_Y) (d pc : Nat) (lv : List (Nat × Value)) (st : List Value) (M : mj_M) (nx kc ks : Nat) (Q : Option Value → mj_M → Nat → Prop) : Prop :=
  ∀ (p : Program) (e : Env) (R : Room) (s : State) (m : MethodId) (args : Array Value) (below : List Frame) (meth : Method) (c : Code) (H : Heap) (locs : List Loc) (ls : Array Slot) (cells slots TC TS : Nat),
    mj_X g y d p R s m args meth c → mj_R g M nx H → va_S (mj_A g) s.heap H locs → lv_has ls y.2.2.1 (lv.map (mj_p g)) → cells + kc ≤ TC → slots + ks ≤ TS → TC ≤ R.cells → TS ≤ R.slots →
    W p l e R s m args below meth c H locs cells slots (MQ below (mj_Q g Q) args s TC TS (mj_A g)) (F0 m pc ls (st.map (mj_v g)))
/-- a method's contract, from these arguments and this memory -/
def mj_Pc (g : mj_G) (As : List Value) (M : mj_M) (nx : Nat) : Array Value → State → Prop := fun v U => v = (As.map (mj_v g)).toArray ∧ mj_R g M nx U.heap ∧ mj_K g U ∧ mj_Z g U U.heap
def mj_rm0 (d kc ks : Nat) : Room := { frames := d, cells := kc, slots := ks, locals := 100 * d }
def mj_Met (g : mj_G) (l : Launch) (y : mj_Y) (d : Nat) (As : List Value) (M : mj_M) (nx kc ks : Nat) (Q : Option Value → mj_M → Nat → Prop) : Prop :=
  Met l y.1 (mj_ws y) (mj_rm0 d kc ks) (mj_Pc g As M nx) (mj_Q g Q) kc ks (mj_A g)
/-! the locals -/
def mj_lk : List (Nat × Value) → Nat → Option Value
  | [], _ => none
  | q :: r, i => cond (Nat.beq q.1 i) (some q.2) (mj_lk r i)
def mj_put (lv : List (Nat × Value)) (i : Nat) (v : Value) : List (Nat × Value) := (i, v) :: lv.filter (fun q => !(q.1 == i) && !(q.1 + 1 == i && q.2.category == 2))
def mj_put2 (lv : List (Nat × Value)) (i : Nat) (v : Value) : List (Nat × Value) := (i, v) :: lv.filter (fun q => !(q.1 == i) && (!(q.1 == i + 1) && !(q.1 + 1 == i && q.2.category == 2)))
theorem mj_cat (g : mj_G) (v : Value) : (mj_v g v).category = v.category := by cases v <;> rfl
theorem mj_cats (g : mj_G) (st : List Value) : ((st.map (mj_v g)).map fun v => v.category) = st.map fun v => v.category := by
  rw [List.map_map]
  exact List.map_congr_left (fun v _ => mj_cat g v)
theorem mj_put_map (g : mj_G) (lv : List (Nat × Value)) (i : Nat) (v : Value) : (mj_put lv i v).map (mj_p g) = (i, mj_v g v) :: (lv.map (mj_p g)).filter (fun q => !(q.1 == i) && !(q.1 + 1 == i && q.2.category == 2)) := by
  rw [mj_put, List.map_cons, List.filter_map]
  congr 2
  apply List.filter_congr
  intro q _
  simp only [Function.comp, mj_p, mj_cat]
theorem mj_put2_map (g : mj_G) (lv : List (Nat × Value)) (i : Nat) (v : Value) : (mj_put2 lv i v).map (mj_p g) = (i, mj_v g v) :: (lv.map (mj_p g)).filter (fun q => !(q.1 == i) && (!(q.1 == i + 1) && !(q.1 + 1 == i && q.2.category == 2))) := by
  rw [mj_put2, List.map_cons, List.filter_map]
  congr 2
  apply List.filter_congr
  intro q _
  simp only [Function.comp, mj_p, mj_cat]
theorem mj_lk_mem {lv : List (Nat × Value)} {i : Nat} {v : Value} (h : mj_lk lv i = some v) : (i, v) ∈ lv := by
  induction lv with
  | nil => cases h
  | cons q r ih =>
    rw [mj_lk] at h
    cases hb : Nat.beq q.1 i with
    | true =>
      rw [hb, cond_true] at h
      have e1 : q.1 = i := Nat.eq_of_beq_eq_true hb
      cases h
      rw [← e1]
      exact List.mem_cons_self
    | false =>
      rw [hb, cond_false] at h
      exact List.mem_cons_of_mem _ (ih h)
theorem mj_at {g : mj_G} {ls : Array Slot} {nL : Nat} {lv : List (Nat × Value)} {i : Nat} {v : Value} (hl : lv_has ls nL (lv.map (mj_p g))) (h : mj_lk lv i = some v) : ls[i]? = some (.val (mj_v g v)) :=
  hl.2.2 (i, mj_v g v) (List.mem_map.mpr ⟨(i, v), mj_lk_mem h, rfl⟩)
theorem mj_args (g : mj_G) : ∀ (As : List Value) (i : Nat), lv_args i (As.map (mj_v g)) = (lv_args i As).map (mj_p g)
  | [], _ => rfl
  | v :: r, i => by
    cases v <;> (simp only [List.map_cons, lv_args]; rw [mj_args g r]; rfl)
