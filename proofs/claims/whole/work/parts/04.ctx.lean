/-! ===== what stays: constant arrays, texts ===== -/
def zt_arr : List (String × String × String × FieldType × List Int32) := [("SquareCaller", "HOME_CELLS", "[I", .int, [1, 2, 7, 11, 14, 13, 8, 4]), ("SquareCaller", "HOME_FACINGS", "[I", .int, [0, 0, 3, 3, 2, 2, 1, 1]), ("SquareCaller", "STEP_X", "[I", .int, [0, 1, 0, -1]), ("SquareCaller", "STEP_Y", "[I", .int, [1, 0, -1, 0]), ("SquareCaller", "FACING_SIGNS", "[C", .char, [94, 62, 118, 60]), ("SquareCallerModel", "HOME_CELL", "[I", .int, [1, 2, 7, 11, 14, 13, 8, 4]), ("SquareCallerModel", "HOME_FACE", "[I", .int, [0, 0, 3, 3, 2, 2, 1, 1]), ("SquareCallerModel", "GROUP", "[I", .int, [255, 51, 204, 85, 170])]
def zt_words : List String := ["all", "heads", "sides", "men", "ladies", "centers", "outers", "belles", "beaus", "forward", "back", "left", "right", "around", "pass", "star", "box", "slide", "trade", "fold", "ring", "", "^>v<"]
def zt_str : List (List Nat) := [[97, 108, 108], [104, 101, 97, 100, 115], [115, 105, 100, 101, 115], [109, 101, 110], [108, 97, 100, 105, 101, 115], [99, 101, 110, 116, 101, 114, 115], [111, 117, 116, 101, 114, 115], [98, 101, 108, 108, 101, 115], [98, 101, 97, 117, 115], [102, 111, 114, 119, 97, 114, 100], [98, 97, 99, 107], [108, 101, 102, 116], [114, 105, 103, 104, 116], [97, 114, 111, 117, 110, 100], [112, 97, 115, 115], [115, 116, 97, 114], [98, 111, 120], [115, 108, 105, 100, 101], [116, 114, 97, 100, 101], [102, 111, 108, 100], [114, 105, 110, 103], [], [94, 62, 118, 60]]
/-- which entry of which class is which text -/
def zt_ref : List (String × Nat × Nat) := [("SquareCaller$Words", 9, 0), ("SquareCaller$Words", 11, 1), ("SquareCaller$Words", 13, 2), ("SquareCaller$Words", 15, 3), ("SquareCaller$Words", 17, 4), ("SquareCaller$Words", 19, 5), ("SquareCaller$Words", 21, 6), ("SquareCaller$Words", 23, 7), ("SquareCaller$Words", 25, 8), ("SquareCaller$Words", 29, 9), ("SquareCaller$Words", 31, 10), ("SquareCaller$Words", 33, 11), ("SquareCaller$Words", 35, 12), ("SquareCaller$Words", 37, 13), ("SquareCaller$Words", 39, 14), ("SquareCaller$Words", 41, 15), ("SquareCaller$Words", 43, 16), ("SquareCaller$Words", 45, 17), ("SquareCaller$Words", 47, 18), ("SquareCaller$Words", 49, 19), ("SquareCaller$Words", 51, 20), ("SquareCaller$Words", 27, 21), ("SquareCallerModel", 9, 0), ("SquareCallerModel", 11, 1), ("SquareCallerModel", 13, 2), ("SquareCallerModel", 15, 3), ("SquareCallerModel", 17, 4), ("SquareCallerModel", 19, 5), ("SquareCallerModel", 21, 6), ("SquareCallerModel", 23, 7), ("SquareCallerModel", 25, 8), ("SquareCallerModel", 33, 9), ("SquareCallerModel", 35, 10), ("SquareCallerModel", 37, 11), ("SquareCallerModel", 39, 12), ("SquareCallerModel", 41, 13), ("SquareCallerModel", 43, 14), ("SquareCallerModel", 45, 15), ("SquareCallerModel", 47, 16), ("SquareCallerModel", 49, 17), ("SquareCallerModel", 51, 18), ("SquareCallerModel", 53, 19), ("SquareCallerModel", 55, 20), ("SquareCallerModel", 294, 22)]
/-- the words that every machine state of the walk keeps; those on nest mates -/
def lw_gd : List Cond := lw_tbl.filter goodWord
def isNest : Cond → Bool
  | .fieldLinkNest .. => true
  | .methodLinkNest .. => true
  | _ => false
def lw_ns : List Cond := lw_tbl.filter isNest
theorem gd_mem {w : Cond} (h : w ∈ lw_tbl) (hg : goodWord w = true) : w ∈ lw_gd := List.mem_filter.mpr ⟨h, hg⟩
theorem ns_mem {w : Cond} (h : w ∈ lw_tbl) (hg : isNest w = true) : w ∈ lw_ns := List.mem_filter.mpr ⟨h, hg⟩
theorem ns_warm {w : Cond} (h : w ∈ lw_ns) {s U : State} (hW : s.WarmedH U.vm) (hZ : va_Nw w s) : va_Nw w U := by
  have h1 := (List.mem_filter.mp h).2
  cases w <;> first | exact hZ.warmF hW | exact hZ.warmM hW | (exact absurd h1 (by simp [isNest]))
theorem ns_tab {w : Cond} (h : w ∈ lw_ns) : w.onTables = true := by
  have h1 := (List.mem_filter.mp h).2
  cases w <;> first | rfl | (exact absurd h1 (by simp [isNest]))
def St (ad : Nat → Nat) (A : Nat → Prop) (U : State) (H : Heap) : Prop :=
  (∀ (k : Nat) (q : String × String × String × FieldType × List Int32), zt_arr[k]? = some q → va_Z q.1 q.2.1 q.2.2.1 (.ref (ad (1000 + k))) A U H ∧ va_T q.2.2.2.1 (ad (1000 + k)) q.2.2.2.2.length (fun j => .int (q.2.2.2.2.getD j 0)) A U H) ∧
  (∀ (k : Nat) (q : List Nat), zt_str[k]? = some q → va_O "java/lang/String" (ad (2000 + k)) A U H ∧ va_OF "java/lang/String" "coder" "B" (.int 0) (ad (2000 + k)) A U H ∧ va_OF "java/lang/String" "value" "[B" (.ref (ad (3000 + k))) (ad (2000 + k)) A U H ∧ va_T .byte (ad (3000 + k)) q.length (fun j => .int (nI (q.getD j 0))) A U H) ∧
  ((∀ q ∈ zt_ref, vk_R q.1 q.2.1 (zt_words.getD q.2.2 "") (ad (2000 + q.2.2)) U) ∧ (∀ w ∈ lw_ns, va_Nw w U) ∧ va_AO "java/lang/String" U) ∧
  va_Z "java/lang/String" "COMPACT_STRINGS" "Z" (.int 1) A U H ∧ (va_Z "jdk/internal/util/Preconditions" "SIOOBE_FORMATTER" "Ljava/util/function/BiFunction;" .null A U H ∨ va_Z "jdk/internal/util/Preconditions" "SIOOBE_FORMATTER" "Ljava/util/function/BiFunction;" (.ref (ad 4000)) A U H)
theorem St.narrow {ad : Nat → Nat} {A B : Nat → Prop} {U : State} {H : Heap} (h : St ad A U H) (hAB : ∀ q, B q → A q) : St ad B U H :=
  ⟨fun k q hk => ⟨(h.1 k q hk).1.narrow hAB, (h.1 k q hk).2.narrow hAB⟩, fun k q hk => ⟨(h.2.1 k q hk).1.narrow hAB, (h.2.1 k q hk).2.1.narrow hAB, (h.2.1 k q hk).2.2.1.narrow hAB, (h.2.1 k q hk).2.2.2.narrow hAB⟩, h.2.2.1, h.2.2.2.1.narrow hAB, h.2.2.2.2.elim (fun z => Or.inl (z.narrow hAB)) (fun z => Or.inr (z.narrow hAB))⟩
theorem St.kept {ad : Nat → Nat} {A : Nat → Prop} {U : State} {H H1 : Heap} (h : St ad A U H) (hq : ∀ a : Nat, a < H.size → ¬ A a → H1[a]? = H[a]?) : St ad A U H1 :=
  ⟨fun k q hk => ⟨(h.1 k q hk).1.kept hq, (h.1 k q hk).2.kept hq⟩, fun k q hk => ⟨(h.2.1 k q hk).1.kept hq, (h.2.1 k q hk).2.1.kept hq, (h.2.1 k q hk).2.2.1.kept hq, (h.2.1 k q hk).2.2.2.kept hq⟩, h.2.2.1, h.2.2.2.1.kept hq, h.2.2.2.2.elim (fun z => Or.inl (z.kept hq)) (fun z => Or.inr (z.kept hq))⟩
theorem St.warm {ad : Nat → Nat} {A : Nat → Prop} {s U : State} {H : Heap} (hW : s.WarmedH U.vm) (h : St ad A s H) : St ad A U H :=
  ⟨fun k q hk => ⟨(h.1 k q hk).1.moved hW.alike, (h.1 k q hk).2.moved hW.alike⟩, fun k q hk => ⟨(h.2.1 k q hk).1.moved hW.alike, (h.2.1 k q hk).2.1.moved hW.alike, (h.2.1 k q hk).2.2.1.moved hW.alike, (h.2.1 k q hk).2.2.2.moved hW.alike⟩, ⟨fun q hq => (h.2.2.1.1 q hq).warm hW, fun w hw => ns_warm hw hW (h.2.2.1.2.1 w hw), h.2.2.1.2.2.moved hW.alike⟩, h.2.2.2.1.moved hW.alike, h.2.2.2.2.elim (fun z => Or.inl (z.moved hW.alike)) (fun z => Or.inr (z.moved hW.alike))⟩
theorem St.same {ad : Nat → Nat} {A : Nat → Prop} {s U : State} {H : Heap} (hv : U.vm = s.vm) (h : St ad A s H) : St ad A U H := by
  have ha : s.vm.Alike U.vm := by rw [hv]; exact Vm.Alike.refl _
  exact ⟨fun k q hk => ⟨(h.1 k q hk).1.moved ha, (h.1 k q hk).2.moved ha⟩, fun k q hk => ⟨(h.2.1 k q hk).1.moved ha, (h.2.1 k q hk).2.1.moved ha, (h.2.1 k q hk).2.2.1.moved ha, (h.2.1 k q hk).2.2.2.moved ha⟩, ⟨fun q hq => (h.2.2.1.1 q hq).same hv, fun w hw => (h.2.2.1.2.1 w hw).same (ns_tab hw) hv.symm, h.2.2.1.2.2.moved ha⟩, h.2.2.2.1.moved ha, h.2.2.2.2.elim (fun z => Or.inl (z.moved ha)) (fun z => Or.inr (z.moved ha))⟩
theorem St.ag {ad ad' : Nat → Nat} {A : Nat → Prop} {U : State} {H : Heap} (h : St ad A U H) (hg : ∀ q, 1000 ≤ q → ad' q = ad q) : St ad' A U H := by
  refine ⟨fun k q hk => ?_, fun k q hk => ?_, ⟨fun q hq => ?_, h.2.2.1.2⟩, h.2.2.2.1, by rw [hg 4000 (by decide)]; exact h.2.2.2.2⟩
  · rw [hg _ (Nat.le_add_right _ _)]; exact h.1 k q hk
  · rw [hg _ (show 1000 ≤ 2000 + k by omega), hg _ (show 1000 ≤ 3000 + k by omega)]; exact h.2.1 k q hk
  · rw [hg _ (show 1000 ≤ 2000 + q.2.2 by omega)]; exact h.2.2.1.1 q hq
/-! ===== the class tables ===== -/
def clC (ci : Nat) : String := match ci with
  | 0 => RX0 | 1 => RX1 | 2 => RX2 | 3 => RX4 | 4 => RX5 | 5 => RX6 | 6 => RX8 | _ => RX9
def clT (ci : Nat) : u_T := match ci with
  | 0 => TX0 | 1 => TX1 | 2 => TX2 | 3 => TX4 | 4 => TX5 | 5 => TX6 | 6 => TX8 | _ => TX9
def clN (ci : Nat) : Nat := match ci with
  | 0 => 5 | 1 => 3 | 2 => 8 | 3 => 3 | 4 => 4 | 5 => 9 | 6 => 9 | _ => 35
def clY (ci : Nat) : Nat → FieldType := match ci with
  | 0 => tyX0 | 1 => tyX1 | 2 => tyX2 | 3 => tyX4 | 4 => tyX5 | 5 => tyX6 | 6 => tyX8 | _ => tyX9
theorem cl_in0 : ∀ w ∈ u_ws RX0 TX0 5, w ∈ lw_gd := by decide +kernel
theorem cl_in1 : ∀ w ∈ u_ws RX1 TX1 3, w ∈ lw_gd := by decide +kernel
theorem cl_in2 : ∀ w ∈ u_ws RX2 TX2 8, w ∈ lw_gd := by decide +kernel
theorem cl_in4 : ∀ w ∈ u_ws RX4 TX4 3, w ∈ lw_gd := by decide +kernel
theorem cl_in5 : ∀ w ∈ u_ws RX5 TX5 4, w ∈ lw_gd := by decide +kernel
theorem cl_in6 : ∀ w ∈ u_ws RX6 TX6 9, w ∈ lw_gd := by decide +kernel
theorem cl_in8 : ∀ w ∈ u_ws RX8 TX8 9, w ∈ lw_gd := by decide +kernel
theorem cl_in9 : ∀ w ∈ u_ws RX9 TX9 35, w ∈ lw_gd := by decide +kernel
theorem cl_at : ∀ ci, ci < 8 → vwCl[ci]? = some (clC ci, clT ci, clN ci) ∧ (∀ w ∈ u_ws (clC ci) (clT ci) (clN ci), w ∈ lw_gd) ∧ (∀ k, k < clN ci → parseFieldDescriptor (clT ci k).2.2.1 = some (clY ci k)) ∧ (∀ a, a < clN ci → ∀ b, b < clN ci → a ≠ b → (clT ci a).2.1 ≠ (clT ci b).2.1) := by
  intro ci h
  match ci, h with
  | 0, _ => exact ⟨rfl, cl_in0, tyX0_ok, nmX0⟩
  | 1, _ => exact ⟨rfl, cl_in1, tyX1_ok, nmX1⟩
  | 2, _ => exact ⟨rfl, cl_in2, tyX2_ok, nmX2⟩
  | 3, _ => exact ⟨rfl, cl_in4, tyX4_ok, nmX4⟩
  | 4, _ => exact ⟨rfl, cl_in5, tyX5_ok, nmX5⟩
  | 5, _ => exact ⟨rfl, cl_in6, tyX6_ok, nmX6⟩
  | 6, _ => exact ⟨rfl, cl_in8, tyX8_ok, nmX8⟩
  | 7, _ => exact ⟨rfl, cl_in9, tyX9_ok, nmX9⟩
theorem gd_good {w : Cond} (h : w ∈ lw_gd) : (w.onTables && w.keeps) = true ∨ ∃ ty, w = .arrayClass ty := good_of_word (List.mem_filter.mp h).2
theorem gd_goodIn {y : MethodName} {cc : ByteArray} {n : Nat} {ret : Option FieldType} (big : List Cond) (hb : ∀ w ∈ lw_gd, w ∈ big) (h : Cond.code y cc n ret ∈ lw_gd) : GoodIn big (Cond.code y cc n ret :: lw_gd) := by
  intro w hw
  have hm : w ∈ lw_gd := (List.mem_cons.mp hw).elim (fun e => e ▸ h) id
  exact ⟨hb w hm, gd_good hm⟩
/-- field k of class ci, as entry idx of class own names it -/
def FL (own : String) (idx ci k : Nat) : Prop := ci < 8 ∧ k < clN ci ∧ (Cond.fieldLink own idx (clT ci k).1 (clT ci k).2.1 (clT ci k).2.2.1 ∈ lw_gd ∨ ∃ host, Cond.fieldLinkNest own idx (clT ci k).1 (clT ci k).2.1 (clT ci k).2.2.1 host ∈ lw_ns)
/-! ===== a method's walk ===== -/
def tyl (cA : Nat → ClassId) : List (ClassId × FieldType) := [(cA 0, .int), (cA 1, .long), (cA 2, .boolean), (cA 3, .object "java/lang/String")]
def Cx (M : MI) (p : Program) (s : State) (m : MethodId) (args : Array Value) (meth : Method) (c : Code) (D : va_G) (cA : Nat → ClassId) (ad : Nat → Nat) (A : Nat → Prop) : Prop :=
  p.tables.exec = Jvm.exec ∧ c.code = M.2.1 ∧ c.maxLocals = M.2.2.1 ∧ meth.sig.returnType = M.2.2.2 ∧ meth.locks = false ∧ meth.name = M.1.name ∧ s.vm.findClass M.1.cls = some m.cls ∧ (∀ w ∈ lw_gd, w.before args s = true) ∧ va_K D vwCl (tyl cA) s ∧ (∀ q : Nat, s.heap.size ≤ q → A q) ∧ St ad A s s.heap
/-- the addresses of places: those of old places stay; of a method that makes nothing, all -/
def Ag (mc : Nat) (w0 : WD) (ad ad' : Nat → Nat) : Prop := (mc = 0 → ad' = ad) ∧ ∀ q : Nat, (wg w0 q ≠ none ∨ 1000 ≤ q) → ad' q = ad q
def rmk (k mc ms : Nat) : Room := { frames := k, cells := mc, slots := ms, locals := 38 * k }
abbrev ZT : Type := List Frame → Array Value → State → va_G → (Nat → ClassId) → (Nat → Nat) → (Nat → Prop) → State → Prop
abbrev XT : Type := Array Value → State → (Nat → Nat) → (Nat → Prop) → Prop
/-- the walk goes on from here to its end Z: method M, depth k, room for mc cells of ms slots, begun in the world w0; nc cells of ns slots made; at pc with locals ls, stack st, world w -/
def Rq (Z : ZT) (X : XT) (M : MI) (k mc ms : Nat) (w0 : WD) (nc ns pc : Nat) (ls : List (Option Value)) (st : List Value) (w : WD) : Prop :=
  ∀ (p : Program) (l : Launch) (e : Env) (s : State) (m : MethodId) (args : Array Value) (below : List Frame) (meth : Method) (c : Code) (D : va_G) (cA : Nat → ClassId) (ad0 : Nat → Nat) (A : Nat → Prop), Cx M p s m args meth c D cA ad0 A → X args s ad0 A →
    ∀ (ad : Nat → Nat) (H : Heap) (locs : List Loc) (lsA : Array Slot), Ag mc w0 ad0 ad → va_P D vwCl (cw ad cA w) H → va_D A (cw ad cA w) → va_S A s.heap H locs → lv_has lsA M.2.2.1 (lsl ad 0 ls) →
      W p l e (rmk k mc ms) s m args below meth c H locs nc ns (Z below args s D cA ad0 A) (F0 m pc lsA (st.map (cv ad)))
/-- a method's end: it returns r, and leaves the world w' -/
def QQ (D : va_G) (cA : Nat → ClassId) (ad0 : Nat → Nat) (mc : Nat) (w0 : WD) (r : Option Value) (w' : WD) (A : Nat → Prop) : Array Value → State → Outcome → State → Prop := fun _ st oc t =>
  ∃ ad : Nat → Nat, Ag mc w0 ad0 ad ∧ oc = .returned (r.map (cv ad)) ∧ va_P D vwCl (cw ad cA w') t.heap ∧ va_D A (cw ad cA w') ∧ va_F A st t
def Zm (mc ms : Nat) (w0 : WD) (r : Option Value) (w' : WD) : ZT := fun below args s D cA ad0 A => MQ below (QQ D cA ad0 mc w0 r w' A) args s mc ms A
def Xm : XT := fun _ _ _ _ => True
abbrev Rn (M : MI) (k mc ms : Nat) (w0 : WD) (r : Option Value) (w' : WD) (nc ns pc : Nat) (ls : List (Option Value)) (st : List Value) (w : WD) : Prop := Rq (Zm mc ms w0 r w') Xm M k mc ms w0 nc ns pc ls st w
/-- method M, called with these arguments in the world w, returns r and leaves w' -/
def Sem (M : MI) (k mc ms : Nat) (as : List Value) (w : WD) (r : Option Value) (w' : WD) : Prop :=
  ∀ (l : Launch) (D : va_G) (cA : Nat → ClassId) (ad : Nat → Nat) (sz : Nat), Met l M.1 (Cond.code M.1 M.2.1 M.2.2.1 M.2.2.2 :: lw_gd) (rmk k mc ms) (va_Pc (as.map (cv ad)) (fun U => U.heap.size = sz ∧ va_P D vwCl (cw ad cA w) U.heap ∧ va_K D vwCl (tyl cA) U ∧ va_D (fun _ => True) (cw ad cA w) ∧ St ad (va_A (cw ad cA w) sz) U U.heap))
    (QQ D cA ad mc w r w' (va_A (cw ad cA w) sz)) mc ms (va_A (cw ad cA w) sz)
def lsa : List Value → List (Option Value)
  | [] => []
  | .long x :: l => some (.long x) :: none :: lsa l
  | .double x :: l => some (.double x) :: none :: lsa l
  | v :: l => some v :: lsa l
