theorem lst1_has {ad : Nat → Nat} {lsB : Array Slot} {n i : Nat} {ls ls' : List (Option Value)} {v : Value} (hl : lv_has lsB n ((i, cv ad v) :: (lsl ad 0 ls).filter (fun q => !(q.1 == i) && !(q.1 + 1 == i && q.2.category == 2)))) (h : lst1 ls i v = ls') : lv_has lsB n (lsl ad 0 ls') := by
  refine lv_mono hl (fun q hq => ?_)
  rw [← h] at hq
  rcases lst1_mem hq with h1 | ⟨h1, h2, h3⟩
  · rw [h1]
    exact List.mem_cons_self
  · refine List.mem_cons_of_mem _ (List.mem_filter.mpr ⟨h1, ?_⟩)
    simp [h2]
    exact Classical.not_and_iff_not_or_not.mp h3
theorem lst2_has {ad : Nat → Nat} {lsB : Array Slot} {n i : Nat} {ls ls' : List (Option Value)} {v : Value} (hl : lv_has lsB n ((i, cv ad v) :: (lsl ad 0 ls).filter (fun q => !(q.1 == i) && (!(q.1 == i + 1) && !(q.1 + 1 == i && q.2.category == 2))))) (h : lst2 ls i v = ls') : lv_has lsB n (lsl ad 0 ls') := by
  refine lv_mono hl (fun q hq => ?_)
  rw [← h] at hq
  rcases lst2_mem hq with h1 | ⟨h1, h2, h4, h3⟩
  · rw [h1]
    exact List.mem_cons_self
  · refine List.mem_cons_of_mem _ (List.mem_filter.mpr ⟨h1, ?_⟩)
    simp [h2, h4]
    exact Classical.not_and_iff_not_or_not.mp h3
section RR
variable {Z : ZT} {X : XT} {M : MI} {k mc ms : Nat} {w0 : WD} {nc ns pc : Nat} {ls ls' : List (Option Value)} {st : List Value} {w w2 : WD}
theorem r_iconst {n : Int} {v : Int32} (hd : decode M.2.1 pc = .ok (.iconst n, 1)) (hv : Int32.ofInt n = v) (K : Rq Z X M k mc ms w0 nc ns (pc + 1) ls (.int v :: st) w) : Rq Z X M k mc ms w0 nc ns pc ls (st) w :=
  fun p l e s m args below meth c D cA ad0 A hC hX ad H locs lsA hg hP hD hS hl => lv_iconst hC.1 hC.2.1 hd hv (K p l e s m args below meth c D cA ad0 A hC hX ad H locs lsA hg hP hD hS hl)
theorem r_bipush {n : Int} {v : Int32} (hd : decode M.2.1 pc = .ok (.bipush n, 2)) (hv : (Int8.ofInt n).toInt32 = v) (K : Rq Z X M k mc ms w0 nc ns (pc + 2) ls (.int v :: st) w) : Rq Z X M k mc ms w0 nc ns pc ls (st) w :=
  fun p l e s m args below meth c D cA ad0 A hC hX ad H locs lsA hg hP hD hS hl => lv_bipush hC.1 hC.2.1 hd hv (K p l e s m args below meth c D cA ad0 A hC hX ad H locs lsA hg hP hD hS hl)
theorem r_sipush {n : Int} {v : Int32} (hd : decode M.2.1 pc = .ok (.sipush n, 3)) (hv : (Int16.ofInt n).toInt32 = v) (K : Rq Z X M k mc ms w0 nc ns (pc + 3) ls (.int v :: st) w) : Rq Z X M k mc ms w0 nc ns pc ls (st) w :=
  fun p l e s m args below meth c D cA ad0 A hC hX ad H locs lsA hg hP hD hS hl => lv_sipush hC.1 hC.2.1 hd hv (K p l e s m args below meth c D cA ad0 A hC hX ad H locs lsA hg hP hD hS hl)
theorem r_lconst {n : Fin 2} {v : Int64} (hd : decode M.2.1 pc = .ok (.lconst n, 1)) (hv : Int64.ofNat (n : Nat) = v) (K : Rq Z X M k mc ms w0 nc ns (pc + 1) ls (.long v :: st) w) : Rq Z X M k mc ms w0 nc ns pc ls (st) w :=
  fun p l e s m args below meth c D cA ad0 A hC hX ad H locs lsA hg hP hD hS hl => lv_lconst hC.1 hC.2.1 hd hv (K p l e s m args below meth c D cA ad0 A hC hX ad H locs lsA hg hP hD hS hl)
theorem r_iload_n {j : Fin 4} {x : Int32} (hd : decode M.2.1 pc = .ok (.iload_n j, 1)) (hx : ls[(j : Nat)]? = some (some (.int x))) (K : Rq Z X M k mc ms w0 nc ns (pc + 1) ls (.int x :: st) w) : Rq Z X M k mc ms w0 nc ns pc ls (st) w :=
  fun p l e s m args below meth c D cA ad0 A hC hX ad H locs lsA hg hP hD hS hl => lv_iload_n hC.1 hC.2.1 hd rfl (lsl_at hl hx) (K p l e s m args below meth c D cA ad0 A hC hX ad H locs lsA hg hP hD hS hl)
theorem r_iload {j : Nat} {x : Int32} (hd : decode M.2.1 pc = .ok (.iload j, 2)) (hx : ls[j]? = some (some (.int x))) (K : Rq Z X M k mc ms w0 nc ns (pc + 2) ls (.int x :: st) w) : Rq Z X M k mc ms w0 nc ns pc ls (st) w :=
  fun p l e s m args below meth c D cA ad0 A hC hX ad H locs lsA hg hP hD hS hl => lv_iload hC.1 hC.2.1 hd (lsl_at hl hx) (K p l e s m args below meth c D cA ad0 A hC hX ad H locs lsA hg hP hD hS hl)
theorem r_lload_n {j : Fin 4} {x : Int64} (hd : decode M.2.1 pc = .ok (.lload_n j, 1)) (hx : ls[(j : Nat)]? = some (some (.long x))) (K : Rq Z X M k mc ms w0 nc ns (pc + 1) ls (.long x :: st) w) : Rq Z X M k mc ms w0 nc ns pc ls (st) w :=
  fun p l e s m args below meth c D cA ad0 A hC hX ad H locs lsA hg hP hD hS hl => lv_lload_n hC.1 hC.2.1 hd rfl (lsl_at hl hx) (K p l e s m args below meth c D cA ad0 A hC hX ad H locs lsA hg hP hD hS hl)
theorem r_lload {j : Nat} {x : Int64} (hd : decode M.2.1 pc = .ok (.lload j, 2)) (hx : ls[j]? = some (some (.long x))) (K : Rq Z X M k mc ms w0 nc ns (pc + 2) ls (.long x :: st) w) : Rq Z X M k mc ms w0 nc ns pc ls (st) w :=
  fun p l e s m args below meth c D cA ad0 A hC hX ad H locs lsA hg hP hD hS hl => lv_lload hC.1 hC.2.1 hd (lsl_at hl hx) (K p l e s m args below meth c D cA ad0 A hC hX ad H locs lsA hg hP hD hS hl)
theorem r_aload_n {j : Fin 4} {x : Nat} (hd : decode M.2.1 pc = .ok (.aload_n j, 1)) (hx : ls[(j : Nat)]? = some (some (.ref x))) (K : Rq Z X M k mc ms w0 nc ns (pc + 1) ls (.ref x :: st) w) : Rq Z X M k mc ms w0 nc ns pc ls (st) w :=
  fun p l e s m args below meth c D cA ad0 A hC hX ad H locs lsA hg hP hD hS hl => lv_aload_n hC.1 hC.2.1 hd rfl (lsl_at hl hx) (K p l e s m args below meth c D cA ad0 A hC hX ad H locs lsA hg hP hD hS hl)
theorem r_aload {j : Nat} {x : Nat} (hd : decode M.2.1 pc = .ok (.aload j, 2)) (hx : ls[j]? = some (some (.ref x))) (K : Rq Z X M k mc ms w0 nc ns (pc + 2) ls (.ref x :: st) w) : Rq Z X M k mc ms w0 nc ns pc ls (st) w :=
  fun p l e s m args below meth c D cA ad0 A hC hX ad H locs lsA hg hP hD hS hl => lv_aload hC.1 hC.2.1 hd (lsl_at hl hx) (K p l e s m args below meth c D cA ad0 A hC hX ad H locs lsA hg hP hD hS hl)
theorem r_istore_n {j : Fin 4} {x : Int32} (hd : decode M.2.1 pc = .ok (.istore_n j, 1)) (hn : (j : Nat) < M.2.2.1) (h : lst1 ls (j : Nat) (.int x) = ls') (K : Rq Z X M k mc ms w0 nc ns (pc + 1) ls' st w) : Rq Z X M k mc ms w0 nc ns pc ls (.int x :: st) w := by
  intro p l e s m args below meth c D cA ad0 A hC hX ad H locs lsA hg hP hD hS hl
  refine lv_istore_n hC.1 hC.2.1 hd rfl hl hn rfl (fun lsB hl2 => ?_)
  exact K p l e s m args below meth c D cA ad0 A hC hX ad H locs lsB hg hP hD hS (lst1_has (v := .int x) hl2 h)
theorem r_istore {j : Nat} {x : Int32} (hd : decode M.2.1 pc = .ok (.istore j, 2)) (hn : j < M.2.2.1) (h : lst1 ls j (.int x) = ls') (K : Rq Z X M k mc ms w0 nc ns (pc + 2) ls' st w) : Rq Z X M k mc ms w0 nc ns pc ls (.int x :: st) w := by
  intro p l e s m args below meth c D cA ad0 A hC hX ad H locs lsA hg hP hD hS hl
  refine lv_istore hC.1 hC.2.1 hd hl hn rfl (fun lsB hl2 => ?_)
  exact K p l e s m args below meth c D cA ad0 A hC hX ad H locs lsB hg hP hD hS (lst1_has (v := .int x) hl2 h)
theorem r_lstore_n {j : Fin 4} {x : Int64} (hd : decode M.2.1 pc = .ok (.lstore_n j, 1)) (hn : (j : Nat) + 1 < M.2.2.1) (h : lst2 ls (j : Nat) (.long x) = ls') (K : Rq Z X M k mc ms w0 nc ns (pc + 1) ls' st w) : Rq Z X M k mc ms w0 nc ns pc ls (.long x :: st) w := by
  intro p l e s m args below meth c D cA ad0 A hC hX ad H locs lsA hg hP hD hS hl
  refine lv_lstore_n hC.1 hC.2.1 hd rfl hl hn rfl (fun lsB hl2 => ?_)
  exact K p l e s m args below meth c D cA ad0 A hC hX ad H locs lsB hg hP hD hS (lst2_has (v := .long x) hl2 h)
theorem r_lstore {j : Nat} {x : Int64} (hd : decode M.2.1 pc = .ok (.lstore j, 2)) (hn : j + 1 < M.2.2.1) (h : lst2 ls j (.long x) = ls') (K : Rq Z X M k mc ms w0 nc ns (pc + 2) ls' st w) : Rq Z X M k mc ms w0 nc ns pc ls (.long x :: st) w := by
  intro p l e s m args below meth c D cA ad0 A hC hX ad H locs lsA hg hP hD hS hl
  refine lv_lstore hC.1 hC.2.1 hd hl hn rfl (fun lsB hl2 => ?_)
  exact K p l e s m args below meth c D cA ad0 A hC hX ad H locs lsB hg hP hD hS (lst2_has (v := .long x) hl2 h)
theorem r_astore_n {j : Fin 4} {x : Nat} (hd : decode M.2.1 pc = .ok (.astore_n j, 1)) (hn : (j : Nat) < M.2.2.1) (h : lst1 ls (j : Nat) (.ref x) = ls') (K : Rq Z X M k mc ms w0 nc ns (pc + 1) ls' st w) : Rq Z X M k mc ms w0 nc ns pc ls (.ref x :: st) w := by
  intro p l e s m args below meth c D cA ad0 A hC hX ad H locs lsA hg hP hD hS hl
  refine lv_astore_n hC.1 hC.2.1 hd rfl hl hn rfl (fun lsB hl2 => ?_)
  exact K p l e s m args below meth c D cA ad0 A hC hX ad H locs lsB hg hP hD hS (lst1_has (v := .ref x) hl2 h)
theorem r_astore {j : Nat} {x : Nat} (hd : decode M.2.1 pc = .ok (.astore j, 2)) (hn : j < M.2.2.1) (h : lst1 ls j (.ref x) = ls') (K : Rq Z X M k mc ms w0 nc ns (pc + 2) ls' st w) : Rq Z X M k mc ms w0 nc ns pc ls (.ref x :: st) w := by
  intro p l e s m args below meth c D cA ad0 A hC hX ad H locs lsA hg hP hD hS hl
  refine lv_astore hC.1 hC.2.1 hd hl hn rfl (fun lsB hl2 => ?_)
  exact K p l e s m args below meth c D cA ad0 A hC hX ad H locs lsB hg hP hD hS (lst1_has (v := .ref x) hl2 h)
theorem r_iinc {j : Nat} {n : Int} {x v : Int32} (hd : decode M.2.1 pc = .ok (.iinc j n, 3)) (hn : j < M.2.2.1) (hx : ls[j]? = some (some (.int x))) (hv : x + Int32.ofInt n = v) (h : lst1 ls j (.int v) = ls') (K : Rq Z X M k mc ms w0 nc ns (pc + 3) ls' st w) : Rq Z X M k mc ms w0 nc ns pc ls st w := by
  intro p l e s m args below meth c D cA ad0 A hC hX ad H locs lsA hg hP hD hS hl
  have hm : (j, Value.int x) ∈ lsl ad 0 ls := (lsl_mem ad ls 0 _).mpr ⟨j, .int x, hx, by simp [cv]⟩
  obtain ⟨q, hq⟩ := List.getElem?_of_mem hm
  refine lv_iinc hC.1 hC.2.1 hd hl (k := q) hq hv hn rfl (fun lsB hl2 => ?_)
  exact K p l e s m args below meth c D cA ad0 A hC hX ad H locs lsB hg hP hD hS (lst1_has (v := .int v) hl2 h)
theorem r_iadd {x y : Int32} (hd : decode M.2.1 pc = .ok (.iadd, 1)) (K : Rq Z X M k mc ms w0 nc ns (pc + 1) ls (.int (x + y) :: st) w) : Rq Z X M k mc ms w0 nc ns pc ls (.int y :: .int x :: st) w :=
  fun p l e s m args below meth c D cA ad0 A hC hX ad H locs lsA hg hP hD hS hl => lv_iadd hC.1 hC.2.1 hd (K p l e s m args below meth c D cA ad0 A hC hX ad H locs lsA hg hP hD hS hl)
theorem r_isub {x y : Int32} (hd : decode M.2.1 pc = .ok (.isub, 1)) (K : Rq Z X M k mc ms w0 nc ns (pc + 1) ls (.int (x - y) :: st) w) : Rq Z X M k mc ms w0 nc ns pc ls (.int y :: .int x :: st) w :=
  fun p l e s m args below meth c D cA ad0 A hC hX ad H locs lsA hg hP hD hS hl => lv_isub hC.1 hC.2.1 hd (K p l e s m args below meth c D cA ad0 A hC hX ad H locs lsA hg hP hD hS hl)
theorem r_imul {x y : Int32} (hd : decode M.2.1 pc = .ok (.imul, 1)) (K : Rq Z X M k mc ms w0 nc ns (pc + 1) ls (.int (x * y) :: st) w) : Rq Z X M k mc ms w0 nc ns pc ls (.int y :: .int x :: st) w :=
  fun p l e s m args below meth c D cA ad0 A hC hX ad H locs lsA hg hP hD hS hl => lv_imul hC.1 hC.2.1 hd (K p l e s m args below meth c D cA ad0 A hC hX ad H locs lsA hg hP hD hS hl)
theorem r_iand {x y : Int32} (hd : decode M.2.1 pc = .ok (.iand, 1)) (K : Rq Z X M k mc ms w0 nc ns (pc + 1) ls (.int (x &&& y) :: st) w) : Rq Z X M k mc ms w0 nc ns pc ls (.int y :: .int x :: st) w :=
  fun p l e s m args below meth c D cA ad0 A hC hX ad H locs lsA hg hP hD hS hl => lv_iand hC.1 hC.2.1 hd (K p l e s m args below meth c D cA ad0 A hC hX ad H locs lsA hg hP hD hS hl)
theorem r_ior {x y : Int32} (hd : decode M.2.1 pc = .ok (.ior, 1)) (K : Rq Z X M k mc ms w0 nc ns (pc + 1) ls (.int (x ||| y) :: st) w) : Rq Z X M k mc ms w0 nc ns pc ls (.int y :: .int x :: st) w :=
  fun p l e s m args below meth c D cA ad0 A hC hX ad H locs lsA hg hP hD hS hl => lv_ior hC.1 hC.2.1 hd (K p l e s m args below meth c D cA ad0 A hC hX ad H locs lsA hg hP hD hS hl)
theorem r_ixor {x y : Int32} (hd : decode M.2.1 pc = .ok (.ixor, 1)) (K : Rq Z X M k mc ms w0 nc ns (pc + 1) ls (.int (x ^^^ y) :: st) w) : Rq Z X M k mc ms w0 nc ns pc ls (.int y :: .int x :: st) w :=
  fun p l e s m args below meth c D cA ad0 A hC hX ad H locs lsA hg hP hD hS hl => lv_ixor hC.1 hC.2.1 hd (K p l e s m args below meth c D cA ad0 A hC hX ad H locs lsA hg hP hD hS hl)
theorem r_ishl {x y : Int32} (hd : decode M.2.1 pc = .ok (.ishl, 1)) (K : Rq Z X M k mc ms w0 nc ns (pc + 1) ls (.int (x <<< (y &&& 31)) :: st) w) : Rq Z X M k mc ms w0 nc ns pc ls (.int y :: .int x :: st) w :=
  fun p l e s m args below meth c D cA ad0 A hC hX ad H locs lsA hg hP hD hS hl => lv_ishl hC.1 hC.2.1 hd (K p l e s m args below meth c D cA ad0 A hC hX ad H locs lsA hg hP hD hS hl)
theorem r_ishr {x y : Int32} (hd : decode M.2.1 pc = .ok (.ishr, 1)) (K : Rq Z X M k mc ms w0 nc ns (pc + 1) ls (.int (x >>> (y &&& 31)) :: st) w) : Rq Z X M k mc ms w0 nc ns pc ls (.int y :: .int x :: st) w :=
  fun p l e s m args below meth c D cA ad0 A hC hX ad H locs lsA hg hP hD hS hl => lv_ishr hC.1 hC.2.1 hd (K p l e s m args below meth c D cA ad0 A hC hX ad H locs lsA hg hP hD hS hl)
theorem r_idiv {x y : Int32} (hd : decode M.2.1 pc = .ok (.idiv, 1)) (hne : ¬ y = 0) (K : Rq Z X M k mc ms w0 nc ns (pc + 1) ls (.int (x / y) :: st) w) : Rq Z X M k mc ms w0 nc ns pc ls (.int y :: .int x :: st) w :=
  fun p l e s m args below meth c D cA ad0 A hC hX ad H locs lsA hg hP hD hS hl => lv_idiv hC.1 hC.2.1 hd hne (K p l e s m args below meth c D cA ad0 A hC hX ad H locs lsA hg hP hD hS hl)
theorem r_irem {x y : Int32} (hd : decode M.2.1 pc = .ok (.irem, 1)) (hne : ¬ y = 0) (K : Rq Z X M k mc ms w0 nc ns (pc + 1) ls (.int (x - x / y * y) :: st) w) : Rq Z X M k mc ms w0 nc ns pc ls (.int y :: .int x :: st) w :=
  fun p l e s m args below meth c D cA ad0 A hC hX ad H locs lsA hg hP hD hS hl => lv_irem hC.1 hC.2.1 hd hne (K p l e s m args below meth c D cA ad0 A hC hX ad H locs lsA hg hP hD hS hl)
theorem r_lor {x y : Int64} (hd : decode M.2.1 pc = .ok (.lor, 1)) (K : Rq Z X M k mc ms w0 nc ns (pc + 1) ls (.long (x ||| y) :: st) w) : Rq Z X M k mc ms w0 nc ns pc ls (.long y :: .long x :: st) w :=
  fun p l e s m args below meth c D cA ad0 A hC hX ad H locs lsA hg hP hD hS hl => lv_lor hC.1 hC.2.1 hd (K p l e s m args below meth c D cA ad0 A hC hX ad H locs lsA hg hP hD hS hl)
theorem r_lshl {x : Int64} {y : Int32} (hd : decode M.2.1 pc = .ok (.lshl, 1)) (K : Rq Z X M k mc ms w0 nc ns (pc + 1) ls (.long (x <<< (y.toInt64 &&& 63)) :: st) w) : Rq Z X M k mc ms w0 nc ns pc ls (.int y :: .long x :: st) w :=
  fun p l e s m args below meth c D cA ad0 A hC hX ad H locs lsA hg hP hD hS hl => lv_lshl hC.1 hC.2.1 hd rfl (K p l e s m args below meth c D cA ad0 A hC hX ad H locs lsA hg hP hD hS hl)
theorem r_lshr {x : Int64} {y : Int32} (hd : decode M.2.1 pc = .ok (.lshr, 1)) (K : Rq Z X M k mc ms w0 nc ns (pc + 1) ls (.long (x >>> (y.toInt64 &&& 63)) :: st) w) : Rq Z X M k mc ms w0 nc ns pc ls (.int y :: .long x :: st) w :=
  fun p l e s m args below meth c D cA ad0 A hC hX ad H locs lsA hg hP hD hS hl => lv_lshr hC.1 hC.2.1 hd rfl (K p l e s m args below meth c D cA ad0 A hC hX ad H locs lsA hg hP hD hS hl)
theorem r_i2l {x : Int32} (hd : decode M.2.1 pc = .ok (.i2l, 1)) (K : Rq Z X M k mc ms w0 nc ns (pc + 1) ls (.long x.toInt64 :: st) w) : Rq Z X M k mc ms w0 nc ns pc ls (.int x :: st) w :=
  fun p l e s m args below meth c D cA ad0 A hC hX ad H locs lsA hg hP hD hS hl => lv_i2l hC.1 hC.2.1 hd rfl (K p l e s m args below meth c D cA ad0 A hC hX ad H locs lsA hg hP hD hS hl)
theorem r_l2i {x : Int64} (hd : decode M.2.1 pc = .ok (.l2i, 1)) (K : Rq Z X M k mc ms w0 nc ns (pc + 1) ls (.int x.toInt32 :: st) w) : Rq Z X M k mc ms w0 nc ns pc ls (.long x :: st) w :=
  fun p l e s m args below meth c D cA ad0 A hC hX ad H locs lsA hg hP hD hS hl => lv_l2i hC.1 hC.2.1 hd rfl (K p l e s m args below meth c D cA ad0 A hC hX ad H locs lsA hg hP hD hS hl)
theorem r_lcmp {x y : Int64} (hd : decode M.2.1 pc = .ok (.lcmp, 1)) (K : Rq Z X M k mc ms w0 nc ns (pc + 1) ls (.int (lg_cmp x y) :: st) w) : Rq Z X M k mc ms w0 nc ns pc ls (.long y :: .long x :: st) w :=
  fun p l e s m args below meth c D cA ad0 A hC hX ad H locs lsA hg hP hD hS hl => W.lcmp hC.1 hC.2.1 hd (K p l e s m args below meth c D cA ad0 A hC hX ad H locs lsA hg hP hD hS hl)
theorem r_dup {v : Value} (hd : decode M.2.1 pc = .ok (.dup, 1)) (hc : v.category = 1) (K : Rq Z X M k mc ms w0 nc ns (pc + 1) ls (v :: v :: st) w) : Rq Z X M k mc ms w0 nc ns pc ls (v :: st) w :=
  fun p l e s m args below meth c D cA ad0 A hC hX ad H locs lsA hg hP hD hS hl => lv_dup hC.1 hC.2.1 hd (by rw [cv_cat]; exact hc) (K p l e s m args below meth c D cA ad0 A hC hX ad H locs lsA hg hP hD hS hl)
theorem r_dup2 {v u : Value} (hd : decode M.2.1 pc = .ok (.dup2, 1)) (hc : v.category = 1) (hc2 : u.category = 1) (K : Rq Z X M k mc ms w0 nc ns (pc + 1) ls (v :: u :: v :: u :: st) w) : Rq Z X M k mc ms w0 nc ns pc ls (v :: u :: st) w :=
  fun p l e s m args below meth c D cA ad0 A hC hX ad H locs lsA hg hP hD hS hl => lv_dup2_11 hC.1 hC.2.1 hd (by rw [cv_cat]; exact hc) (by rw [cv_cat]; exact hc2) (K p l e s m args below meth c D cA ad0 A hC hX ad H locs lsA hg hP hD hS hl)
theorem r_pop {v : Value} (hd : decode M.2.1 pc = .ok (.pop, 1)) (hc : v.category = 1) (K : Rq Z X M k mc ms w0 nc ns (pc + 1) ls (st) w) : Rq Z X M k mc ms w0 nc ns pc ls (v :: st) w :=
  fun p l e s m args below meth c D cA ad0 A hC hX ad H locs lsA hg hP hD hS hl => lv_pop hC.1 hC.2.1 hd (by rw [cv_cat]; exact hc) (K p l e s m args below meth c D cA ad0 A hC hX ad H locs lsA hg hP hD hS hl)
theorem r_if_eq {x : Int32} {off : Int} (tgt : Nat) (hd : decode M.2.1 pc = .ok (.ifCond .eq off, 3)) (ht : (pc : Int) + off = (tgt : Int)) (K1 : x = 0 → Rq Z X M k mc ms w0 nc ns tgt ls st w) (K2 : ¬ x = 0 → Rq Z X M k mc ms w0 nc ns (pc + 3) ls st w) : Rq Z X M k mc ms w0 nc ns pc ls (.int x :: st) w :=
  fun p l e s m args below meth c D cA ad0 A hC hX ad H locs lsA hg hP hD hS hl => lv_if_eq hC.1 hC.2.1 hd ht (fun h => K1 h p l e s m args below meth c D cA ad0 A hC hX ad H locs lsA hg hP hD hS hl) (fun h => K2 h p l e s m args below meth c D cA ad0 A hC hX ad H locs lsA hg hP hD hS hl)
theorem r_if_ne {x : Int32} {off : Int} (tgt : Nat) (hd : decode M.2.1 pc = .ok (.ifCond .ne off, 3)) (ht : (pc : Int) + off = (tgt : Int)) (K1 : ¬ x = 0 → Rq Z X M k mc ms w0 nc ns tgt ls st w) (K2 : x = 0 → Rq Z X M k mc ms w0 nc ns (pc + 3) ls st w) : Rq Z X M k mc ms w0 nc ns pc ls (.int x :: st) w :=
  fun p l e s m args below meth c D cA ad0 A hC hX ad H locs lsA hg hP hD hS hl => lv_if_ne hC.1 hC.2.1 hd ht (fun h => K1 h p l e s m args below meth c D cA ad0 A hC hX ad H locs lsA hg hP hD hS hl) (fun h => K2 h p l e s m args below meth c D cA ad0 A hC hX ad H locs lsA hg hP hD hS hl)
theorem r_if_lt {x : Int32} {off : Int} (tgt : Nat) (hd : decode M.2.1 pc = .ok (.ifCond .lt off, 3)) (ht : (pc : Int) + off = (tgt : Int)) (K1 : x < 0 → Rq Z X M k mc ms w0 nc ns tgt ls st w) (K2 : ¬ x < 0 → Rq Z X M k mc ms w0 nc ns (pc + 3) ls st w) : Rq Z X M k mc ms w0 nc ns pc ls (.int x :: st) w :=
  fun p l e s m args below meth c D cA ad0 A hC hX ad H locs lsA hg hP hD hS hl => lv_if_lt hC.1 hC.2.1 hd ht (fun h => K1 h p l e s m args below meth c D cA ad0 A hC hX ad H locs lsA hg hP hD hS hl) (fun h => K2 h p l e s m args below meth c D cA ad0 A hC hX ad H locs lsA hg hP hD hS hl)
theorem r_if_ge {x : Int32} {off : Int} (tgt : Nat) (hd : decode M.2.1 pc = .ok (.ifCond .ge off, 3)) (ht : (pc : Int) + off = (tgt : Int)) (K1 : 0 ≤ x → Rq Z X M k mc ms w0 nc ns tgt ls st w) (K2 : ¬ 0 ≤ x → Rq Z X M k mc ms w0 nc ns (pc + 3) ls st w) : Rq Z X M k mc ms w0 nc ns pc ls (.int x :: st) w :=
  fun p l e s m args below meth c D cA ad0 A hC hX ad H locs lsA hg hP hD hS hl => lv_if_ge hC.1 hC.2.1 hd ht (fun h => K1 h p l e s m args below meth c D cA ad0 A hC hX ad H locs lsA hg hP hD hS hl) (fun h => K2 h p l e s m args below meth c D cA ad0 A hC hX ad H locs lsA hg hP hD hS hl)
theorem r_if_gt {x : Int32} {off : Int} (tgt : Nat) (hd : decode M.2.1 pc = .ok (.ifCond .gt off, 3)) (ht : (pc : Int) + off = (tgt : Int)) (K1 : 0 < x → Rq Z X M k mc ms w0 nc ns tgt ls st w) (K2 : ¬ 0 < x → Rq Z X M k mc ms w0 nc ns (pc + 3) ls st w) : Rq Z X M k mc ms w0 nc ns pc ls (.int x :: st) w :=
  fun p l e s m args below meth c D cA ad0 A hC hX ad H locs lsA hg hP hD hS hl => lv_if_gt hC.1 hC.2.1 hd ht (fun h => K1 h p l e s m args below meth c D cA ad0 A hC hX ad H locs lsA hg hP hD hS hl) (fun h => K2 h p l e s m args below meth c D cA ad0 A hC hX ad H locs lsA hg hP hD hS hl)
theorem r_if_le {x : Int32} {off : Int} (tgt : Nat) (hd : decode M.2.1 pc = .ok (.ifCond .le off, 3)) (ht : (pc : Int) + off = (tgt : Int)) (K1 : x ≤ 0 → Rq Z X M k mc ms w0 nc ns tgt ls st w) (K2 : ¬ x ≤ 0 → Rq Z X M k mc ms w0 nc ns (pc + 3) ls st w) : Rq Z X M k mc ms w0 nc ns pc ls (.int x :: st) w :=
  fun p l e s m args below meth c D cA ad0 A hC hX ad H locs lsA hg hP hD hS hl => lv_if_le hC.1 hC.2.1 hd ht (fun h => K1 h p l e s m args below meth c D cA ad0 A hC hX ad H locs lsA hg hP hD hS hl) (fun h => K2 h p l e s m args below meth c D cA ad0 A hC hX ad H locs lsA hg hP hD hS hl)
theorem r_icmp_eq {x y : Int32} {off : Int} (tgt : Nat) (hd : decode M.2.1 pc = .ok (.if_icmp .eq off, 3)) (ht : (pc : Int) + off = (tgt : Int)) (K1 : x = y → Rq Z X M k mc ms w0 nc ns tgt ls st w) (K2 : ¬ x = y → Rq Z X M k mc ms w0 nc ns (pc + 3) ls st w) : Rq Z X M k mc ms w0 nc ns pc ls (.int y :: .int x :: st) w :=
  fun p l e s m args below meth c D cA ad0 A hC hX ad H locs lsA hg hP hD hS hl => lv_icmp_eq hC.1 hC.2.1 hd ht (fun h => K1 h p l e s m args below meth c D cA ad0 A hC hX ad H locs lsA hg hP hD hS hl) (fun h => K2 h p l e s m args below meth c D cA ad0 A hC hX ad H locs lsA hg hP hD hS hl)
theorem r_icmp_ne {x y : Int32} {off : Int} (tgt : Nat) (hd : decode M.2.1 pc = .ok (.if_icmp .ne off, 3)) (ht : (pc : Int) + off = (tgt : Int)) (K1 : ¬ x = y → Rq Z X M k mc ms w0 nc ns tgt ls st w) (K2 : x = y → Rq Z X M k mc ms w0 nc ns (pc + 3) ls st w) : Rq Z X M k mc ms w0 nc ns pc ls (.int y :: .int x :: st) w :=
  fun p l e s m args below meth c D cA ad0 A hC hX ad H locs lsA hg hP hD hS hl => lv_icmp_ne hC.1 hC.2.1 hd ht (fun h => K1 h p l e s m args below meth c D cA ad0 A hC hX ad H locs lsA hg hP hD hS hl) (fun h => K2 h p l e s m args below meth c D cA ad0 A hC hX ad H locs lsA hg hP hD hS hl)
theorem r_icmp_lt {x y : Int32} {off : Int} (tgt : Nat) (hd : decode M.2.1 pc = .ok (.if_icmp .lt off, 3)) (ht : (pc : Int) + off = (tgt : Int)) (K1 : x < y → Rq Z X M k mc ms w0 nc ns tgt ls st w) (K2 : ¬ x < y → Rq Z X M k mc ms w0 nc ns (pc + 3) ls st w) : Rq Z X M k mc ms w0 nc ns pc ls (.int y :: .int x :: st) w :=
  fun p l e s m args below meth c D cA ad0 A hC hX ad H locs lsA hg hP hD hS hl => lv_icmp_lt hC.1 hC.2.1 hd ht (fun h => K1 h p l e s m args below meth c D cA ad0 A hC hX ad H locs lsA hg hP hD hS hl) (fun h => K2 h p l e s m args below meth c D cA ad0 A hC hX ad H locs lsA hg hP hD hS hl)
theorem r_icmp_ge {x y : Int32} {off : Int} (tgt : Nat) (hd : decode M.2.1 pc = .ok (.if_icmp .ge off, 3)) (ht : (pc : Int) + off = (tgt : Int)) (K1 : y ≤ x → Rq Z X M k mc ms w0 nc ns tgt ls st w) (K2 : ¬ y ≤ x → Rq Z X M k mc ms w0 nc ns (pc + 3) ls st w) : Rq Z X M k mc ms w0 nc ns pc ls (.int y :: .int x :: st) w :=
  fun p l e s m args below meth c D cA ad0 A hC hX ad H locs lsA hg hP hD hS hl => lv_icmp_ge hC.1 hC.2.1 hd ht (fun h => K1 h p l e s m args below meth c D cA ad0 A hC hX ad H locs lsA hg hP hD hS hl) (fun h => K2 h p l e s m args below meth c D cA ad0 A hC hX ad H locs lsA hg hP hD hS hl)
theorem r_icmp_gt {x y : Int32} {off : Int} (tgt : Nat) (hd : decode M.2.1 pc = .ok (.if_icmp .gt off, 3)) (ht : (pc : Int) + off = (tgt : Int)) (K1 : y < x → Rq Z X M k mc ms w0 nc ns tgt ls st w) (K2 : ¬ y < x → Rq Z X M k mc ms w0 nc ns (pc + 3) ls st w) : Rq Z X M k mc ms w0 nc ns pc ls (.int y :: .int x :: st) w :=
  fun p l e s m args below meth c D cA ad0 A hC hX ad H locs lsA hg hP hD hS hl => lv_icmp_gt hC.1 hC.2.1 hd ht (fun h => K1 h p l e s m args below meth c D cA ad0 A hC hX ad H locs lsA hg hP hD hS hl) (fun h => K2 h p l e s m args below meth c D cA ad0 A hC hX ad H locs lsA hg hP hD hS hl)
theorem r_icmp_le {x y : Int32} {off : Int} (tgt : Nat) (hd : decode M.2.1 pc = .ok (.if_icmp .le off, 3)) (ht : (pc : Int) + off = (tgt : Int)) (K1 : x ≤ y → Rq Z X M k mc ms w0 nc ns tgt ls st w) (K2 : ¬ x ≤ y → Rq Z X M k mc ms w0 nc ns (pc + 3) ls st w) : Rq Z X M k mc ms w0 nc ns pc ls (.int y :: .int x :: st) w :=
  fun p l e s m args below meth c D cA ad0 A hC hX ad H locs lsA hg hP hD hS hl => lv_icmp_le hC.1 hC.2.1 hd ht (fun h => K1 h p l e s m args below meth c D cA ad0 A hC hX ad H locs lsA hg hP hD hS hl) (fun h => K2 h p l e s m args below meth c D cA ad0 A hC hX ad H locs lsA hg hP hD hS hl)
theorem r_goto {off : Int} (tgt : Nat) (hd : decode M.2.1 pc = .ok (.goto off, 3)) (ht : (pc : Int) + off = (tgt : Int)) (K : Rq Z X M k mc ms w0 nc ns tgt ls st w) : Rq Z X M k mc ms w0 nc ns pc ls st w :=
  fun p l e s m args below meth c D cA ad0 A hC hX ad H locs lsA hg hP hD hS hl => lv_goto hC.1 hC.2.1 hd ht (K p l e s m args below meth c D cA ad0 A hC hX ad H locs lsA hg hP hD hS hl)
theorem r_tabIn {dflt lo hi : Int} {offs : Array Int} {len : Nat} {x : Int32} {off : Int} (tgt : Nat) (hd : decode M.2.1 pc = .ok (.tableswitch dflt lo hi offs, len)) (h1 : ¬ x.toInt < lo) (h2 : ¬ hi < x.toInt) (ho : offs[(x.toInt - lo).toNat]? = some off) (ht : (pc : Int) + off = (tgt : Int)) (K : Rq Z X M k mc ms w0 nc ns tgt ls st w) : Rq Z X M k mc ms w0 nc ns pc ls (.int x :: st) w :=
  fun p l e s m args below meth c D cA ad0 A hC hX ad H locs lsA hg hP hD hS hl => lv_tableIn hC.1 hC.2.1 hd h1 h2 ho ht (K p l e s m args below meth c D cA ad0 A hC hX ad H locs lsA hg hP hD hS hl)
theorem r_tabOut {dflt lo hi : Int} {offs : Array Int} {len : Nat} {x : Int32} (tgt : Nat) (hd : decode M.2.1 pc = .ok (.tableswitch dflt lo hi offs, len)) (h : x.toInt < lo ∨ hi < x.toInt) (ht : (pc : Int) + dflt = (tgt : Int)) (K : Rq Z X M k mc ms w0 nc ns tgt ls st w) : Rq Z X M k mc ms w0 nc ns pc ls (.int x :: st) w :=
  fun p l e s m args below meth c D cA ad0 A hC hX ad H locs lsA hg hP hD hS hl => lv_tableOut hC.1 hC.2.1 hd h ht (K p l e s m args below meth c D cA ad0 A hC hX ad H locs lsA hg hP hD hS hl)
/-- fewer locals known -/
theorem r_drop (h : lsubs ls' ls) (K : Rq Z X M k mc ms w0 nc ns pc ls' st w) : Rq Z X M k mc ms w0 nc ns pc ls st w :=
  fun p l e s m args below meth c D cA ad0 A hC hX ad H locs lsA hg hP hD hS hl => K p l e s m args below meth c D cA ad0 A hC hX ad H locs lsA hg hP hD hS (lv_mono hl (fun q hq => lsub_mem (lsubs_ok _ _ h) hq))
theorem r_get {idx ci j q : Nat} {fs : List Value} {v : Value} (hd : decode M.2.1 pc = .ok (.getfield idx, 3)) (hF : FL M.1.cls idx ci j) (hw : wg w q = some (.inr (ci, fs))) (hv : fs[j]? = some v) (K : Rq Z X M k mc ms w0 nc ns (pc + 3) ls (v :: st) w) : Rq Z X M k mc ms w0 nc ns pc ls (.ref q :: st) w := by
  intro p l e s m args below meth c D cA ad0 A hC hX ad H locs lsA hg hP hD hS hl
  have K := (K p l e s m args below meth c D cA ad0 A hC hX ad H locs lsA hg hP hD hS hl)
  obtain ⟨hx, hb, hml, hrt, hlk, hnm, hown, hts, hK, hA, hSt⟩ := hC
  obtain ⟨q0, hq, -⟩ := cw_at (ad := ad) (cA := cA) hw
  obtain ⟨hci, hj, hlk⟩ := hF
  obtain ⟨hcl, hin, -, -⟩ := cl_at ci hci
  have hv' : (fs.map (cv ad))[j]? = some (cv ad v) := by rw [List.getElem?_map, hv]; rfl
  rcases hlk with hlk | ⟨host, hlk⟩
  · exact va_get hx hb hts hin hown hK hP q0 hq hcl j hj (hts _ hlk) (fun _ h9 => h9) hv' hd K
  · exact va_getN hx hb hts hin hown hK hP q0 hq hcl j hj ((hSt.2.2.1.2.1 _ hlk).use (ns_tab hlk)) (fun _ h9 => h9) hv' hd K
theorem r_put {idx ci j q : Nat} {fs : List Value} {v : Value} (hd : decode M.2.1 pc = .ok (.putfield idx, 3)) (hF : FL M.1.cls idx ci j) (hfin : (clT ci j).2.2.2 = false) (hw : wg w q = some (.inr (ci, fs))) (hj2 : j < fs.length) (hn : ∀ ad, narrow (clY ci j) (cv ad v) = cv ad v) (hft : ∀ ad, fits (clY ci j) (cv ad v) = true) (h2 : wput w q (.inr (ci, fs.set j v)) = w2) (K : Rq Z X M k mc ms w0 nc ns (pc + 3) ls st w2) : Rq Z X M k mc ms w0 nc ns pc ls (v :: .ref q :: st) w := by
  intro p l e s m args below meth c D cA ad0 A hC hX ad H locs lsA hg hP hD hS hl
  have hC0 := hC
  obtain ⟨hx, hb, hml, hrt, hlk, hnm, hown, hts, hK, hA, hSt⟩ := hC
  obtain ⟨q0, hq, hs⟩ := cw_at (ad := ad) (cA := cA) hw
  obtain ⟨hci, hj, hlk⟩ := hF
  obtain ⟨hcl, hin, hty, hnames⟩ := cl_at ci hci
  have hs2 : (cw ad cA w).set q0 (ad q, .inr (ci, (fs.map (cv ad)).set j (cv ad v))) = cw ad cA w2 := by
    rw [← h2, ← hs]
    simp only [ce, List.map_set]
  rcases hlk with hlk | ⟨host, hlk⟩
  · refine va_put hx hb hts hin (clY ci) hty hnames hown hK hP hD hS q0 hq hcl j hj (hts _ hlk) (fun _ h9 => h9) hfin (hty j hj) (hn ad) (hft ad) (by simpa using hj2) hd (fun H1 locs1 hP1 hD1 hS1 => ?_)
    rw [hs2] at hP1 hD1
    exact K p l e s m args below meth c D cA ad0 A hC0 hX ad H1 locs1 lsA hg hP1 hD1 hS1 hl
  · refine va_putN hx hb hts hin (clY ci) hty hnames hown hK hP hD hS q0 hq hcl j hj ((hSt.2.2.1.2.1 _ hlk).use (ns_tab hlk)) (fun _ h9 => h9) hfin (hty j hj) (hn ad) (hft ad) (by simpa using hj2) hd (fun H1 locs1 hP1 hD1 hS1 => ?_)
    rw [hs2] at hP1 hD1
    exact K p l e s m args below meth c D cA ad0 A hC0 hX ad H1 locs1 lsA hg hP1 hD1 hS1 hl
/-- a final field, in its class's constructor -/
theorem r_putF {idx ci j q : Nat} {fs : List Value} {v : Value} (hd : decode M.2.1 pc = .ok (.putfield idx, 3)) (hF : ci < 8 ∧ j < clN ci ∧ Cond.fieldLink M.1.cls idx (clT ci j).1 (clT ci j).2.1 (clT ci j).2.2.1 ∈ lw_gd) (hfin : (clT ci j).2.2.2 = true) (hini : M.1.name = "<init>") (hdec : (clT ci j).1 = M.1.cls) (hw : wg w q = some (.inr (ci, fs))) (hj2 : j < fs.length) (hn : ∀ ad, narrow (clY ci j) (cv ad v) = cv ad v) (hft : ∀ ad, fits (clY ci j) (cv ad v) = true) (h2 : wput w q (.inr (ci, fs.set j v)) = w2) (K : Rq Z X M k mc ms w0 nc ns (pc + 3) ls st w2) : Rq Z X M k mc ms w0 nc ns pc ls (v :: .ref q :: st) w := by
  intro p l e s m args below meth c D cA ad0 A hC hX ad H locs lsA hg hP hD hS hl
  have hC0 := hC
  obtain ⟨hx, hb, hml, hrt, hlk, hnm, hown, hts, hK, hA, hSt⟩ := hC
  obtain ⟨q0, hq, hs⟩ := cw_at (ad := ad) (cA := cA) hw
  obtain ⟨hci, hj, hlk⟩ := hF
  obtain ⟨hcl, hin, hty, hnames⟩ := cl_at ci hci
  have hs2 : (cw ad cA w).set q0 (ad q, .inr (ci, (fs.map (cv ad)).set j (cv ad v))) = cw ad cA w2 := by
    rw [← h2, ← hs]
    simp only [ce, List.map_set]
  refine va_putF hx hb hts hin (clY ci) hty hnames hown hK hP hD hS q0 hq hcl j hj (hts _ hlk) (fun _ h9 => h9) hfin (hnm.trans hini) hdec (hty j hj) (hn ad) (hft ad) (by simpa using hj2) hd (fun H1 locs1 hP1 hD1 hS1 => ?_)
  rw [hs2] at hP1 hD1
  exact K p l e s m args below meth c D cA ad0 A hC0 hX ad H1 locs1 lsA hg hP1 hD1 hS1 hl
theorem r_iald {q n j : Nat} {f : Nat → Int32} {i : Int32} (hd : decode M.2.1 pc = .ok (.iaload, 1)) (hw : wg w q = some (.inl (0, n, .inl f))) (hi : i = nI j) (hj : j < n) (hn : n < 2 ^ 31) (K : Rq Z X M k mc ms w0 nc ns (pc + 1) ls (.int (f j) :: st) w) : Rq Z X M k mc ms w0 nc ns pc ls (.int i :: .ref q :: st) w := by
  subst hi
  intro p l e s m args below meth c D cA ad0 A hC hX ad H locs lsA hg hP hD hS hl
  have K := (K p l e s m args below meth c D cA ad0 A hC hX ad H locs lsA hg hP hD hS hl)
  obtain ⟨hx, hb, hml, hrt, hlk, hnm, hown, hts, hK, hA, hSt⟩ := hC
  obtain ⟨q0, hq, -⟩ := cw_at (ad := ad) (cA := cA) hw
  refine va_iald hx hb hK hP q0 0 hq rfl (vp_in_nI hj hn) hd ?_
  rw [nI_clamp (Nat.lt_trans hj hn)]
  exact K
theorem r_lald {q n j : Nat} {f : Nat → Int64} {i : Int32} (hd : decode M.2.1 pc = .ok (.laload, 1)) (hw : wg w q = some (.inl (1, n, .inr (.inl f)))) (hi : i = nI j) (hj : j < n) (hn : n < 2 ^ 31) (K : Rq Z X M k mc ms w0 nc ns (pc + 1) ls (.long (f j) :: st) w) : Rq Z X M k mc ms w0 nc ns pc ls (.int i :: .ref q :: st) w := by
  subst hi
  intro p l e s m args below meth c D cA ad0 A hC hX ad H locs lsA hg hP hD hS hl
  have K := (K p l e s m args below meth c D cA ad0 A hC hX ad H locs lsA hg hP hD hS hl)
  obtain ⟨hx, hb, hml, hrt, hlk, hnm, hown, hts, hK, hA, hSt⟩ := hC
  obtain ⟨q0, hq, -⟩ := cw_at (ad := ad) (cA := cA) hw
  refine va_lald hx hb hK hP q0 1 hq rfl (vp_in_nI hj hn) hd ?_
  rw [nI_clamp (Nat.lt_trans hj hn)]
  exact K
theorem r_zald {q n j : Nat} {f : Nat → Int32} {i : Int32} (hd : decode M.2.1 pc = .ok (.baload, 1)) (hw : wg w q = some (.inl (2, n, .inl f))) (hi : i = nI j) (hj : j < n) (hn : n < 2 ^ 31) (K : Rq Z X M k mc ms w0 nc ns (pc + 1) ls (.int (f j) :: st) w) : Rq Z X M k mc ms w0 nc ns pc ls (.int i :: .ref q :: st) w := by
  subst hi
  intro p l e s m args below meth c D cA ad0 A hC hX ad H locs lsA hg hP hD hS hl
  have K := (K p l e s m args below meth c D cA ad0 A hC hX ad H locs lsA hg hP hD hS hl)
  obtain ⟨hx, hb, hml, hrt, hlk, hnm, hown, hts, hK, hA, hSt⟩ := hC
  obtain ⟨q0, hq, -⟩ := cw_at (ad := ad) (cA := cA) hw
  refine va_zald hx hb hK hP q0 2 hq rfl (vp_in_nI hj hn) hd ?_
  rw [nI_clamp (Nat.lt_trans hj hn)]
  exact K
theorem r_iast {q n j : Nat} {f : Nat → Int32} {i : Int32} {x : Int32} (hd : decode M.2.1 pc = .ok (.iastore, 1)) (hw : wg w q = some (.inl (0, n, .inl f))) (hi : i = nI j) (hj : j < n) (hn : n < 2 ^ 31) (h2 : wput w q (.inl (0, n, .inl (upd f j x))) = w2) (K : Rq Z X M k mc ms w0 nc ns (pc + 1) ls st w2) : Rq Z X M k mc ms w0 nc ns pc ls (.int x :: .int i :: .ref q :: st) w := by
  subst hi
  intro p l e s m args below meth c D cA ad0 A hC hX ad H locs lsA hg hP hD hS hl
  have hC0 := hC
  obtain ⟨hx, hb, hml, hrt, hlk, hnm, hown, hts, hK, hA, hSt⟩ := hC
  obtain ⟨q0, hq, hs⟩ := cw_at (ad := ad) (cA := cA) hw
  refine va_iast hx hb hK hP hD hS q0 0 hq rfl (vp_in_nI hj hn) hd (fun H1 locs1 hP1 hD1 hS1 => ?_)
  rw [nI_clamp (Nat.lt_trans hj hn)] at hP1 hD1
  have hs2 := hs (.inl (0, n, .inl (upd f j x)))
  rw [h2] at hs2
  have hs3 : (cw ad cA w).set q0 (ad q, .inl (cA 0, n, .inl (upd f j x))) = cw ad cA w2 := hs2
  rw [hs3] at hP1 hD1
  exact K p l e s m args below meth c D cA ad0 A hC0 hX ad H1 locs1 lsA hg hP1 hD1 hS1 hl
theorem r_last {q n j : Nat} {f : Nat → Int64} {i : Int32} {x : Int64} (hd : decode M.2.1 pc = .ok (.lastore, 1)) (hw : wg w q = some (.inl (1, n, .inr (.inl f)))) (hi : i = nI j) (hj : j < n) (hn : n < 2 ^ 31) (h2 : wput w q (.inl (1, n, .inr (.inl (vp_updL f j x)))) = w2) (K : Rq Z X M k mc ms w0 nc ns (pc + 1) ls st w2) : Rq Z X M k mc ms w0 nc ns pc ls (.long x :: .int i :: .ref q :: st) w := by
  subst hi
  intro p l e s m args below meth c D cA ad0 A hC hX ad H locs lsA hg hP hD hS hl
  have hC0 := hC
  obtain ⟨hx, hb, hml, hrt, hlk, hnm, hown, hts, hK, hA, hSt⟩ := hC
  obtain ⟨q0, hq, hs⟩ := cw_at (ad := ad) (cA := cA) hw
  refine va_last hx hb hK hP hD hS q0 1 hq rfl (vp_in_nI hj hn) hd (fun H1 locs1 hP1 hD1 hS1 => ?_)
  rw [nI_clamp (Nat.lt_trans hj hn)] at hP1 hD1
  have hs2 := hs (.inl (1, n, .inr (.inl (vp_updL f j x))))
  rw [h2] at hs2
  have hs3 : (cw ad cA w).set q0 (ad q, .inl (cA 1, n, .inr (.inl (vp_updL f j x)))) = cw ad cA w2 := hs2
  rw [hs3] at hP1 hD1
  exact K p l e s m args below meth c D cA ad0 A hC0 hX ad H1 locs1 lsA hg hP1 hD1 hS1 hl
theorem r_zast {q n j : Nat} {f : Nat → Int32} {i : Int32} {x : Int32} (hd : decode M.2.1 pc = .ok (.bastore, 1)) (hw : wg w q = some (.inl (2, n, .inl f))) (hi : i = nI j) (hj : j < n) (hn : n < 2 ^ 31) (h2 : wput w q (.inl (2, n, .inl (upd f j (vp_nar .boolean x)))) = w2) (K : Rq Z X M k mc ms w0 nc ns (pc + 1) ls st w2) : Rq Z X M k mc ms w0 nc ns pc ls (.int x :: .int i :: .ref q :: st) w := by
  subst hi
  intro p l e s m args below meth c D cA ad0 A hC hX ad H locs lsA hg hP hD hS hl
  have hC0 := hC
  obtain ⟨hx, hb, hml, hrt, hlk, hnm, hown, hts, hK, hA, hSt⟩ := hC
  obtain ⟨q0, hq, hs⟩ := cw_at (ad := ad) (cA := cA) hw
  refine va_zast hx hb hK hP hD hS q0 2 hq rfl (vp_in_nI hj hn) hd (fun H1 locs1 hP1 hD1 hS1 => ?_)
  rw [nI_clamp (Nat.lt_trans hj hn)] at hP1 hD1
  have hs2 := hs (.inl (2, n, .inl (upd f j (vp_nar .boolean x))))
  rw [h2] at hs2
  have hs3 : (cw ad cA w).set q0 (ad q, .inl (cA 2, n, .inl (upd f j (vp_nar .boolean x)))) = cw ad cA w2 := hs2
  rw [hs3] at hP1 hD1
  exact K p l e s m args below meth c D cA ad0 A hC0 hX ad H1 locs1 lsA hg hP1 hD1 hS1 hl
theorem r_alen {q ti : Nat} {x : vp_A} {v : Int32} (hd : decode M.2.1 pc = .ok (.arraylength, 1)) (hw : wg w q = some (.inl (ti, x))) (hti : ti < 4) (hv : Int32.ofNat x.1 = v) (K : Rq Z X M k mc ms w0 nc ns (pc + 1) ls (.int v :: st) w) : Rq Z X M k mc ms w0 nc ns pc ls (.ref q :: st) w := by
  intro p l e s m args below meth c D cA ad0 A hC hX ad H locs lsA hg hP hD hS hl
  have K := (K p l e s m args below meth c D cA ad0 A hC hX ad H locs lsA hg hP hD hS hl)
  obtain ⟨hx, hb, hml, hrt, hlk, hnm, hown, hts, hK, hA, hSt⟩ := hC
  obtain ⟨q0, hq, -⟩ := cw_at (ad := ad) (cA := cA) hw
  have hq' : (cw ad cA w)[q0]? = some (ad q, .inl (cA ti, ca ad x)) := hq
  match ti, hti, hq' with
  | 0, _, hq' => exact va_alen hx hb hK hP q0 0 hq' rfl hv hd K
  | 1, _, hq' => exact va_alen hx hb hK hP q0 1 hq' rfl hv hd K
  | 2, _, hq' => exact va_alen hx hb hK hP q0 2 hq' rfl hv hd K
  | 3, _, hq' => exact va_alen hx hb hK hP q0 3 hq' rfl hv hd K
/-- a constant array, of ints or of chars -/
theorem r_cald {j : Nat} {q : String × String × String × FieldType × List Int32} {i v : Int32} (a : Nat) (hq : zt_arr[a]? = some q) (hd : decode M.2.1 pc = .ok (.iaload, 1) ∧ q.2.2.2.1 = .int ∨ decode M.2.1 pc = .ok (.caload, 1) ∧ q.2.2.2.1 = .char) (hi : i = nI j) (hj : j < q.2.2.2.2.length) (hn : q.2.2.2.2.length < 2 ^ 31) (hv : q.2.2.2.2.getD j 0 = v) (K : Rq Z X M k mc ms w0 nc ns (pc + 1) ls (.int v :: st) w) : Rq Z X M k mc ms w0 nc ns pc ls (.int i :: .ref (1000 + a) :: st) w := by
  subst hi
  intro p l e s m args below meth c D cA ad0 A hC hX ad H locs lsA hg hP hD hS hl
  have K := (K p l e s m args below meth c D cA ad0 A hC hX ad H locs lsA hg hP hD hS hl)
  obtain ⟨hx, hb, hml, hrt, hlk, hnm, hown, hts, hK, hA, hSt⟩ := hC
  have hT := (hSt.1 a q hq).2
  rw [← hg.2 _ (Or.inr (Nat.le_add_right _ _))] at hT
  rcases hd with ⟨hd, ht⟩ | ⟨hd, ht⟩
  · rw [ht] at hT
    exact va_ti hx hb hT hS (vp_in_nI hj hn) (v := .int v) (by rw [nI_clamp (Nat.lt_trans hj hn), hv]) hd K
  · rw [ht] at hT
    exact va_tc hx hb hT hS (vp_in_nI hj hn) (v := .int v) (by rw [nI_clamp (Nat.lt_trans hj hn), hv]) hd K
end RR
