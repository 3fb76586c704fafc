/-! ===== the start: what the Statement gives of it ===== -/
def zt_can : List (String × Nat) := [("SquareCaller$Words", 9), ("SquareCaller$Words", 11), ("SquareCaller$Words", 13), ("SquareCaller$Words", 15), ("SquareCaller$Words", 17), ("SquareCaller$Words", 19), ("SquareCaller$Words", 21), ("SquareCaller$Words", 23), ("SquareCaller$Words", 25), ("SquareCaller$Words", 29), ("SquareCaller$Words", 31), ("SquareCaller$Words", 33), ("SquareCaller$Words", 35), ("SquareCaller$Words", 37), ("SquareCaller$Words", 39), ("SquareCaller$Words", 41), ("SquareCaller$Words", 43), ("SquareCaller$Words", 45), ("SquareCaller$Words", 47), ("SquareCaller$Words", 49), ("SquareCaller$Words", 51), ("SquareCaller$Words", 27), ("SquareCallerModel", 294)]
def zt_c (i : Nat) : Term := .string (zt_can.getD i ("", 0)).1 (zt_can.getD i ("", 0)).2
abbrev zt_v (i : Nat) : Term := .field (zt_c i) "java/lang/String" "value" "[B"
abbrev fl_1 : List Cond := flatC (Jvm.Cond.and given_1 narrow_1)
def ndA (q : String × String × String × FieldType × List Int32) : List Cond := .arrayOf (.static q.1 q.2.1 q.2.2.1) q.2.2.2.1 :: .eq (.length (.static q.1 q.2.1 q.2.2.1)) (.int (Int32.ofNat q.2.2.2.2.length)) :: (List.range q.2.2.2.2.length).map (fun j => .eq (.elem (.static q.1 q.2.1 q.2.2.1) (.int (Int32.ofNat j))) (.int (q.2.2.2.2.getD j 0)))
def ndS (i : Nat) : List Cond := .exactly (zt_c i) "java/lang/String" :: .eq (.field (zt_c i) "java/lang/String" "coder" "B") (.int 0) :: .arrayOf (zt_v i) .byte :: .eq (.length (zt_v i)) (.int (Int32.ofNat (zt_str.getD i []).length)) :: (List.range (zt_str.getD i []).length).map (fun j => .eq (.elem (zt_v i) (.int (Int32.ofNat j))) (.int (nI ((zt_str.getD i []).getD j 0))))
set_option maxRecDepth 100000 in
theorem ndA_in : ∀ q ∈ zt_arr, ∀ c ∈ ndA q, c ∈ fl_1 := by decide +kernel
set_option maxRecDepth 100000 in
theorem ndA_tb : ∀ q ∈ zt_arr, Cond.laysStatic q.1 q.2.1 q.2.2.1 ∈ lw_tbl ∧ Cond.initialized q.1 ∈ lw_tbl ∧ q.2.2.2.2.length < 2 ^ 31 := by decide +kernel
def zt_ix : List Nat := [189, 196, 205, 214, 221, 231, 242, 252, 262, 82, 93, 101, 109, 118, 128, 136, 144, 151, 160, 169, 177, 185, 477]
theorem ndS_0 : ndS 0 = (fl_1.drop 189).take 7 := by decide +kernel
theorem ndS_1 : ndS 1 = (fl_1.drop 196).take 9 := by decide +kernel
theorem ndS_2 : ndS 2 = (fl_1.drop 205).take 9 := by decide +kernel
theorem ndS_3 : ndS 3 = (fl_1.drop 214).take 7 := by decide +kernel
theorem ndS_4 : ndS 4 = (fl_1.drop 221).take 10 := by decide +kernel
theorem ndS_5 : ndS 5 = (fl_1.drop 231).take 11 := by decide +kernel
theorem ndS_6 : ndS 6 = (fl_1.drop 242).take 10 := by decide +kernel
theorem ndS_7 : ndS 7 = (fl_1.drop 252).take 10 := by decide +kernel
theorem ndS_8 : ndS 8 = (fl_1.drop 262).take 9 := by decide +kernel
theorem ndS_9 : ndS 9 = (fl_1.drop 82).take 11 := by decide +kernel
theorem ndS_10 : ndS 10 = (fl_1.drop 93).take 8 := by decide +kernel
theorem ndS_11 : ndS 11 = (fl_1.drop 101).take 8 := by decide +kernel
theorem ndS_12 : ndS 12 = (fl_1.drop 109).take 9 := by decide +kernel
theorem ndS_13 : ndS 13 = (fl_1.drop 118).take 10 := by decide +kernel
theorem ndS_14 : ndS 14 = (fl_1.drop 128).take 8 := by decide +kernel
theorem ndS_15 : ndS 15 = (fl_1.drop 136).take 8 := by decide +kernel
theorem ndS_16 : ndS 16 = (fl_1.drop 144).take 7 := by decide +kernel
theorem ndS_17 : ndS 17 = (fl_1.drop 151).take 9 := by decide +kernel
theorem ndS_18 : ndS 18 = (fl_1.drop 160).take 9 := by decide +kernel
theorem ndS_19 : ndS 19 = (fl_1.drop 169).take 8 := by decide +kernel
theorem ndS_20 : ndS 20 = (fl_1.drop 177).take 8 := by decide +kernel
theorem ndS_21 : ndS 21 = (fl_1.drop 185).take 4 := by decide +kernel
theorem ndS_22 : ndS 22 = (fl_1.drop 477).take 8 := by decide +kernel
theorem ndS_in : ∀ i, i < 23 → ∀ c ∈ ndS i, c ∈ fl_1 := by
  intro i hi
  have key : ∀ n k, ndS i = (fl_1.drop k).take n → ∀ c ∈ ndS i, c ∈ fl_1 := fun n k h c hc => by
    rw [h] at hc
    exact List.mem_of_mem_drop (List.mem_of_mem_take hc)
  match i, hi with
  | 0, _ => exact key _ _ ndS_0
  | 1, _ => exact key _ _ ndS_1
  | 2, _ => exact key _ _ ndS_2
  | 3, _ => exact key _ _ ndS_3
  | 4, _ => exact key _ _ ndS_4
  | 5, _ => exact key _ _ ndS_5
  | 6, _ => exact key _ _ ndS_6
  | 7, _ => exact key _ _ ndS_7
  | 8, _ => exact key _ _ ndS_8
  | 9, _ => exact key _ _ ndS_9
  | 10, _ => exact key _ _ ndS_10
  | 11, _ => exact key _ _ ndS_11
  | 12, _ => exact key _ _ ndS_12
  | 13, _ => exact key _ _ ndS_13
  | 14, _ => exact key _ _ ndS_14
  | 15, _ => exact key _ _ ndS_15
  | 16, _ => exact key _ _ ndS_16
  | 17, _ => exact key _ _ ndS_17
  | 18, _ => exact key _ _ ndS_18
  | 19, _ => exact key _ _ ndS_19
  | 20, _ => exact key _ _ ndS_20
  | 21, _ => exact key _ _ ndS_21
  | 22, _ => exact key _ _ ndS_22
  | n + 23, h => exact absurd h (by omega)
def zt_rx : List (Nat × Nat) := [(395, 0), (396, 0), (397, 0), (398, 0), (399, 0), (400, 0), (401, 0), (402, 0), (403, 0), (323, 0), (324, 0), (325, 0), (326, 0), (327, 0), (328, 0), (329, 0), (330, 0), (331, 0), (332, 0), (333, 0), (334, 0), (335, 0), (739, 278), (740, 288), (741, 298), (742, 306), (743, 317), (744, 329), (745, 340), (746, 351), (747, 361), (748, 373), (749, 382), (750, 391), (751, 401), (752, 412), (753, 421), (754, 430), (755, 438), (756, 448), (757, 458), (758, 467), (759, 476), (1070, 0)]
def ndR (k : Nat) : Bool := match zt_ref[k]? with
  | none => false
  | some r => decide (r.2.2 < 23) && decide (lw_tbl[(zt_rx.getD k (0, 0)).1]? = some (Cond.stringRef r.1 r.2.1 (zt_words.getD r.2.2 ""))) && (decide ((zt_can.getD r.2.2 ("", 0)) = (r.1, r.2.1)) || decide (fl_1[(zt_rx.getD k (0, 0)).2]? = some (Cond.eq (zt_c r.2.2) (.string r.1 r.2.1))))
theorem ndR_0 : ndR 0 = true := by decide +kernel
theorem ndR_1 : ndR 1 = true := by decide +kernel
theorem ndR_2 : ndR 2 = true := by decide +kernel
theorem ndR_3 : ndR 3 = true := by decide +kernel
theorem ndR_4 : ndR 4 = true := by decide +kernel
theorem ndR_5 : ndR 5 = true := by decide +kernel
theorem ndR_6 : ndR 6 = true := by decide +kernel
theorem ndR_7 : ndR 7 = true := by decide +kernel
theorem ndR_8 : ndR 8 = true := by decide +kernel
theorem ndR_9 : ndR 9 = true := by decide +kernel
theorem ndR_10 : ndR 10 = true := by decide +kernel
theorem ndR_11 : ndR 11 = true := by decide +kernel
theorem ndR_12 : ndR 12 = true := by decide +kernel
theorem ndR_13 : ndR 13 = true := by decide +kernel
theorem ndR_14 : ndR 14 = true := by decide +kernel
theorem ndR_15 : ndR 15 = true := by decide +kernel
theorem ndR_16 : ndR 16 = true := by decide +kernel
theorem ndR_17 : ndR 17 = true := by decide +kernel
theorem ndR_18 : ndR 18 = true := by decide +kernel
theorem ndR_19 : ndR 19 = true := by decide +kernel
theorem ndR_20 : ndR 20 = true := by decide +kernel
theorem ndR_21 : ndR 21 = true := by decide +kernel
theorem ndR_22 : ndR 22 = true := by decide +kernel
theorem ndR_23 : ndR 23 = true := by decide +kernel
theorem ndR_24 : ndR 24 = true := by decide +kernel
theorem ndR_25 : ndR 25 = true := by decide +kernel
theorem ndR_26 : ndR 26 = true := by decide +kernel
theorem ndR_27 : ndR 27 = true := by decide +kernel
theorem ndR_28 : ndR 28 = true := by decide +kernel
theorem ndR_29 : ndR 29 = true := by decide +kernel
theorem ndR_30 : ndR 30 = true := by decide +kernel
theorem ndR_31 : ndR 31 = true := by decide +kernel
theorem ndR_32 : ndR 32 = true := by decide +kernel
theorem ndR_33 : ndR 33 = true := by decide +kernel
theorem ndR_34 : ndR 34 = true := by decide +kernel
theorem ndR_35 : ndR 35 = true := by decide +kernel
theorem ndR_36 : ndR 36 = true := by decide +kernel
theorem ndR_37 : ndR 37 = true := by decide +kernel
theorem ndR_38 : ndR 38 = true := by decide +kernel
theorem ndR_39 : ndR 39 = true := by decide +kernel
theorem ndR_40 : ndR 40 = true := by decide +kernel
theorem ndR_41 : ndR 41 = true := by decide +kernel
theorem ndR_42 : ndR 42 = true := by decide +kernel
theorem ndR_43 : ndR 43 = true := by decide +kernel
theorem ndS_eq : ∀ r ∈ zt_ref, r.2.2 < 23 ∧ Cond.stringRef r.1 r.2.1 (zt_words.getD r.2.2 "") ∈ lw_tbl ∧ ((zt_can.getD r.2.2 ("", 0)) = (r.1, r.2.1) ∨ Cond.eq (zt_c r.2.2) (.string r.1 r.2.1) ∈ fl_1) := by
  intro r hr
  obtain ⟨k, hk⟩ := List.mem_iff_getElem?.mp hr
  have hk44 : k < 44 := (List.getElem?_eq_some_iff.mp hk).1
  have h : ndR k = true := by
    match k, hk44 with
    | 0, _ => exact ndR_0
    | 1, _ => exact ndR_1
    | 2, _ => exact ndR_2
    | 3, _ => exact ndR_3
    | 4, _ => exact ndR_4
    | 5, _ => exact ndR_5
    | 6, _ => exact ndR_6
    | 7, _ => exact ndR_7
    | 8, _ => exact ndR_8
    | 9, _ => exact ndR_9
    | 10, _ => exact ndR_10
    | 11, _ => exact ndR_11
    | 12, _ => exact ndR_12
    | 13, _ => exact ndR_13
    | 14, _ => exact ndR_14
    | 15, _ => exact ndR_15
    | 16, _ => exact ndR_16
    | 17, _ => exact ndR_17
    | 18, _ => exact ndR_18
    | 19, _ => exact ndR_19
    | 20, _ => exact ndR_20
    | 21, _ => exact ndR_21
    | 22, _ => exact ndR_22
    | 23, _ => exact ndR_23
    | 24, _ => exact ndR_24
    | 25, _ => exact ndR_25
    | 26, _ => exact ndR_26
    | 27, _ => exact ndR_27
    | 28, _ => exact ndR_28
    | 29, _ => exact ndR_29
    | 30, _ => exact ndR_30
    | 31, _ => exact ndR_31
    | 32, _ => exact ndR_32
    | 33, _ => exact ndR_33
    | 34, _ => exact ndR_34
    | 35, _ => exact ndR_35
    | 36, _ => exact ndR_36
    | 37, _ => exact ndR_37
    | 38, _ => exact ndR_38
    | 39, _ => exact ndR_39
    | 40, _ => exact ndR_40
    | 41, _ => exact ndR_41
    | 42, _ => exact ndR_42
    | 43, _ => exact ndR_43
    | n + 44, h => exact absurd h (by omega)
  unfold ndR at h
  rw [hk] at h
  simp only [Bool.and_eq_true, Bool.or_eq_true, decide_eq_true_eq] at h
  obtain ⟨⟨h1, h2⟩, h3⟩ := h
  exact ⟨h1, List.mem_of_getElem? h2, h3.elim Or.inl (fun z => Or.inr (List.mem_of_getElem? z))⟩
theorem ndS_len : ∀ i, i < 23 → (zt_str.getD i []).length < 2 ^ 31 := by decide +kernel
section ST
variable {args : Array Value} {s : State} {A : Nat → Prop}
theorem st_arr (hs : ∀ c ∈ fl_1, c.before args s = true) (ht : ∀ w ∈ lw_tbl, w.before args s = true) (hA : ∀ a : Nat, a < s.heap.size → ¬ A a) (k : Nat) : ∃ t : Nat, ∀ q, zt_arr[k]? = some q → va_Z q.1 q.2.1 q.2.2.1 (.ref t) A s s.heap ∧ va_T q.2.2.2.1 t q.2.2.2.2.length (fun j => .int (q.2.2.2.2.getD j 0)) A s s.heap := by
  cases hk : zt_arr[k]? with
  | none => exact ⟨0, fun q h => by cases h⟩
  | some q =>
    have hm := List.mem_of_getElem? hk
    have hn := ndA_in q hm
    obtain ⟨h1, h2, h3⟩ := ndA_tb q hm
    obtain ⟨t, e1, e2⟩ := va_Tof (args := args) (s := s) (tm := .static q.1 q.2.1 q.2.2.1) (ty := q.2.2.2.1) (N := q.2.2.2.2.length) (f := fun j => .int (q.2.2.2.2.getD j 0)) (A := A) h3 (hs _ (hn _ List.mem_cons_self)) (va_eqt (hs _ (hn _ (List.mem_cons_of_mem _ List.mem_cons_self)))) (fun j hj => va_eqt (hs _ (hn _ (List.mem_cons_of_mem _ (List.mem_cons_of_mem _ (List.mem_map.mpr ⟨j, List.mem_range.mpr hj, rfl⟩)))))) hA
    refine ⟨t, fun q' h => ?_⟩
    injection h with h
    subst h
    exact ⟨va_Zof (ht _ h1) (ht _ h2) e1 hA, e2⟩
theorem st_str (hs : ∀ c ∈ fl_1, c.before args s = true) (hA : ∀ a : Nat, a < s.heap.size → ¬ A a) (i : Nat) : ∃ q : Nat × Nat, i < 23 → (zt_c i).eval args s none [] s = some (.ref q.1) ∧ va_O "java/lang/String" q.1 A s s.heap ∧ va_OF "java/lang/String" "coder" "B" (.int 0) q.1 A s s.heap ∧ va_OF "java/lang/String" "value" "[B" (.ref q.2) q.1 A s s.heap ∧ va_T .byte q.2 (zt_str.getD i []).length (fun j => .int (nI ((zt_str.getD i []).getD j 0))) A s s.heap := by
  by_cases hi : i < 23
  · have hn := ndS_in i hi
    have m0 := hn _ List.mem_cons_self
    have m1 := hn _ (List.mem_cons_of_mem _ List.mem_cons_self)
    have m2 := hn _ (List.mem_cons_of_mem _ (List.mem_cons_of_mem _ List.mem_cons_self))
    have m3 := hn _ (List.mem_cons_of_mem _ (List.mem_cons_of_mem _ (List.mem_cons_of_mem _ List.mem_cons_self)))
    obtain ⟨a, c, cA, kA, q1, q2, q3, q4, q5, q6, -⟩ := Cond.exactly_spec (args := args) (first := s) (o := none) (s := s) (idx := []) (t := zt_c i) (cls := "java/lang/String") (hs _ m0)
    obtain ⟨t, ht, hT⟩ := va_Tof (tm := zt_v i) (ty := .byte) (N := (zt_str.getD i []).length) (f := fun j => .int (nI ((zt_str.getD i []).getD j 0))) (A := A) (ndS_len i hi) (hs _ m2) (va_eqt (hs _ m3)) (fun j hj => va_eqt (hs _ (hn _ (List.mem_cons_of_mem _ (List.mem_cons_of_mem _ (List.mem_cons_of_mem _ (List.mem_cons_of_mem _ (List.mem_map.mpr ⟨j, List.mem_range.mpr hj, rfl⟩)))))))) hA
    exact ⟨(a, t), fun _ => ⟨q1, ⟨cA, q3, q5, by rw [q6]; exact q2, hA a (Array.getElem?_eq_some_iff.mp q3).1⟩, vk_OFof q1 (va_eqt (hs _ m1)) hA, vk_OFof q1 ht hA, hT⟩⟩
  · exact ⟨(0, 0), fun h => absurd h hi⟩
theorem ns_tbl {w : Cond} (h : w ∈ lw_ns) : w ∈ lw_tbl := (List.mem_filter.mp h).1
theorem st_all (b : Nat) (hs : ∀ c ∈ fl_1, c.before args s = true) (ht : ∀ w ∈ lw_tbl, w.before args s = true) (hA : ∀ a : Nat, a < s.heap.size → ¬ A a) : ∃ ad : Nat → Nat, ad 5000 = b ∧ St ad A s s.heap := by
  obtain ⟨fA, hfA⟩ := Classical.axiomOfChoice (st_arr (A := A) hs ht hA)
  obtain ⟨fS, hfS⟩ := Classical.axiomOfChoice (st_str (A := A) hs hA)
  have h5 := va_Zqof (A := A) (ht (.laysStatic "jdk/internal/util/Preconditions" "SIOOBE_FORMATTER" "Ljava/util/function/BiFunction;") (List.mem_of_getElem? (i := 365) (by decide +kernel))) (ht (.initialized "jdk/internal/util/Preconditions") (List.mem_of_getElem? (i := 71) (by decide +kernel))) (hs (.isRef (.static "jdk/internal/util/Preconditions" "SIOOBE_FORMATTER" "Ljava/util/function/BiFunction;")) (by decide +kernel)) hA
  have h5' : ∃ z : Nat, va_Z "jdk/internal/util/Preconditions" "SIOOBE_FORMATTER" "Ljava/util/function/BiFunction;" .null A s s.heap ∨ va_Z "jdk/internal/util/Preconditions" "SIOOBE_FORMATTER" "Ljava/util/function/BiFunction;" (.ref z) A s s.heap := by
    rcases h5 with h | ⟨z, h⟩
    · exact ⟨0, Or.inl h⟩
    · exact ⟨z, Or.inr h⟩
  obtain ⟨z4, h4⟩ := h5'
  have h6 := va_Zof (A := A) (ht (.laysStatic "java/lang/String" "COMPACT_STRINGS" "Z") (List.mem_of_getElem? (i := 349) (by decide +kernel))) (ht (.initialized "java/lang/String") (List.mem_of_getElem? (i := 69) (by decide +kernel))) (va_eqi (hs (.eq (.static "java/lang/String" "COMPACT_STRINGS" "Z") (.int 1)) (by decide +kernel))) hA
  have k8 : ∀ k q, zt_arr[k]? = some q → k < 8 := fun k q h => by
    have := (List.getElem?_eq_some_iff.mp h).1
    exact this
  have k23 : ∀ k q, zt_str[k]? = some q → k < 23 ∧ zt_str.getD k [] = q := fun k q h => by
    have h1 := (List.getElem?_eq_some_iff.mp h).1
    exact ⟨h1, by rw [List.getD_eq_getElem?_getD, h]; rfl⟩
  refine ⟨fun p => if p = 5000 then b else if p = 4000 then z4 else if 3000 ≤ p then (fS (p - 3000)).2 else if 2000 ≤ p then (fS (p - 2000)).1 else if 1000 ≤ p then fA (p - 1000) else 0, if_pos rfl, ?_⟩
  have e1 : ∀ k, k < 8 → (fun p => if p = 5000 then b else if p = 4000 then z4 else if 3000 ≤ p then (fS (p - 3000)).2 else if 2000 ≤ p then (fS (p - 2000)).1 else if 1000 ≤ p then fA (p - 1000) else 0) (1000 + k) = fA k := fun k hk => by
    dsimp only
    rw [if_neg (by omega), if_neg (by omega), if_neg (by omega), if_neg (by omega), if_pos (by omega), Nat.add_sub_cancel_left]
  have e2 : ∀ k, k < 23 → (fun p => if p = 5000 then b else if p = 4000 then z4 else if 3000 ≤ p then (fS (p - 3000)).2 else if 2000 ≤ p then (fS (p - 2000)).1 else if 1000 ≤ p then fA (p - 1000) else 0) (2000 + k) = (fS k).1 := fun k hk => by
    dsimp only
    rw [if_neg (by omega), if_neg (by omega), if_neg (by omega), if_pos (by omega), Nat.add_sub_cancel_left]
  have e3 : ∀ k, k < 23 → (fun p => if p = 5000 then b else if p = 4000 then z4 else if 3000 ≤ p then (fS (p - 3000)).2 else if 2000 ≤ p then (fS (p - 2000)).1 else if 1000 ≤ p then fA (p - 1000) else 0) (3000 + k) = (fS k).2 := fun k hk => by
    dsimp only
    rw [if_neg (by omega), if_neg (by omega), if_pos (by omega), Nat.add_sub_cancel_left]
  have e4 : (fun p => if p = 5000 then b else if p = 4000 then z4 else if 3000 ≤ p then (fS (p - 3000)).2 else if 2000 ≤ p then (fS (p - 2000)).1 else if 1000 ≤ p then fA (p - 1000) else 0) 4000 = z4 := by
    dsimp only
    rw [if_neg (by decide), if_pos rfl]
  generalize (fun p => if p = 5000 then b else if p = 4000 then z4 else if 3000 ≤ p then (fS (p - 3000)).2 else if 2000 ≤ p then (fS (p - 2000)).1 else if 1000 ≤ p then fA (p - 1000) else 0) = ad at e1 e2 e3 e4 ⊢
  refine ⟨fun k q hk => ?_, fun k q hk => ?_, ⟨fun r hr => ?_, fun w hw => va_Nw.of (ns_tab hw) (ht w (ns_tbl hw)), va_AO.of (ht (.arrayOver (.object "java/lang/String")) (List.mem_of_getElem? (i := 738) (by decide +kernel)))⟩, h6, by rw [e4]; exact h4⟩
  · rw [e1 k (k8 k q hk)]
    exact hfA k q hk
  · obtain ⟨a1, a2⟩ := k23 k q hk
    rw [e2 k a1, e3 k a1]
    have h := (hfS k a1).2
    rw [a2] at h
    exact h
  · obtain ⟨a1, a2, a3⟩ := ndS_eq r hr
    rw [e2 _ a1]
    have hev := (hfS _ a1).1
    refine vk_R.of (A := args) (ht _ a2) ?_
    rcases a3 with a3 | a3
    · unfold zt_c at hev
      rw [a3] at hev
      exact hev
    · exact va_eqR (hs _ a3) hev
end ST
/-! ===== the first state ===== -/
def wC0 : List AE := [.inr (6, [.ref 1, .ref 4, .ref 11, .ref 15, .int (nI 0), .ref 19, .ref 21, .ref 33, .ref 34]), .inr (4, [.ref 2, .int (nI 0), .ref 3, .int (nI 0)]), .inl (0, 120, .inl z32), .inl (0, 120, .inl z32), .inr (2, [.ref 5, .ref 6, .ref 7, .ref 8, .ref 9, .ref 10, .int (nI 0), .int (nI 0)]), .inl (0, 8, .inl z32), .inl (0, 8, .inl z32), .inl (0, 16, .inl z32), .inl (0, 8, .inl z32), .inl (0, 8, .inl z32), .inl (0, 8, .inl z32), .inr (0, [.ref 12, .ref 13, .ref 14, .int (nI 0), .int (nI 0)]), .inl (0, 200, .inl z32), .inl (1, 201, .inr (.inl (vp_updL z64 0 homeP))), .inl (1, 201, .inr (.inl z64)), .inr (0, [.ref 16, .ref 17, .ref 18, .int (nI 0), .int (nI 0)]), .inl (0, 200, .inl z32), .inl (1, 201, .inr (.inl (vp_updL z64 0 homeP))), .inl (1, 201, .inr (.inl z64)), .inr (1, [.ref 20, .int (nI 0), .int (nI 0)]), .inl (0, 8, .inl z32), .inr (5, [.ref 22, .long homeP, .ref 29, .ref 30, .ref 31, .int (nI 0), .ref 32, .long homeP, .int (nI 0)]), .inr (2, [.ref 23, .ref 24, .ref 25, .ref 26, .ref 27, .ref 28, .int (nI 0), .int (nI 0)]), .inl (0, 8, .inl z32), .inl (0, 8, .inl z32), .inl (0, 16, .inl z32), .inl (0, 8, .inl z32), .inl (0, 8, .inl z32), .inl (0, 8, .inl z32), .inl (1, 250, .inr (.inl z64)), .inl (0, 250, .inl z32), .inl (0, 250, .inl z32), .inl (0, 250, .inl z32), .inr (3, [.int (nI 0), .int (nI 0), .int (nI 0)]), .inl (0, 12, .inl z32)]
theorem wC0_no : ∀ p, 100 ≤ p → p < 124 → noL p wC0 := by
  intro p h1 h2
  obtain ⟨k, rfl⟩ : ∃ k, p = 100 + k := ⟨p - 100, by omega⟩
  have hk : k < 24 := by omega
  clear h1 h2
  match k, hk with
  | 0, _ => exact ⟨rfl, rfl, trivial, trivial, rfl, trivial, trivial, trivial, trivial, trivial, trivial, rfl, trivial, trivial, trivial, rfl, trivial, trivial, trivial, rfl, trivial, rfl, rfl, trivial, trivial, trivial, trivial, trivial, trivial, trivial, trivial, trivial, trivial, rfl, trivial, trivial⟩
  | 1, _ => exact ⟨rfl, rfl, trivial, trivial, rfl, trivial, trivial, trivial, trivial, trivial, trivial, rfl, trivial, trivial, trivial, rfl, trivial, trivial, trivial, rfl, trivial, rfl, rfl, trivial, trivial, trivial, trivial, trivial, trivial, trivial, trivial, trivial, trivial, rfl, trivial, trivial⟩
  | 2, _ => exact ⟨rfl, rfl, trivial, trivial, rfl, trivial, trivial, trivial, trivial, trivial, trivial, rfl, trivial, trivial, trivial, rfl, trivial, trivial, trivial, rfl, trivial, rfl, rfl, trivial, trivial, trivial, trivial, trivial, trivial, trivial, trivial, trivial, trivial, rfl, trivial, trivial⟩
  | 3, _ => exact ⟨rfl, rfl, trivial, trivial, rfl, trivial, trivial, trivial, trivial, trivial, trivial, rfl, trivial, trivial, trivial, rfl, trivial, trivial, trivial, rfl, trivial, rfl, rfl, trivial, trivial, trivial, trivial, trivial, trivial, trivial, trivial, trivial, trivial, rfl, trivial, trivial⟩
  | 4, _ => exact ⟨rfl, rfl, trivial, trivial, rfl, trivial, trivial, trivial, trivial, trivial, trivial, rfl, trivial, trivial, trivial, rfl, trivial, trivial, trivial, rfl, trivial, rfl, rfl, trivial, trivial, trivial, trivial, trivial, trivial, trivial, trivial, trivial, trivial, rfl, trivial, trivial⟩
  | 5, _ => exact ⟨rfl, rfl, trivial, trivial, rfl, trivial, trivial, trivial, trivial, trivial, trivial, rfl, trivial, trivial, trivial, rfl, trivial, trivial, trivial, rfl, trivial, rfl, rfl, trivial, trivial, trivial, trivial, trivial, trivial, trivial, trivial, trivial, trivial, rfl, trivial, trivial⟩
  | 6, _ => exact ⟨rfl, rfl, trivial, trivial, rfl, trivial, trivial, trivial, trivial, trivial, trivial, rfl, trivial, trivial, trivial, rfl, trivial, trivial, trivial, rfl, trivial, rfl, rfl, trivial, trivial, trivial, trivial, trivial, trivial, trivial, trivial, trivial, trivial, rfl, trivial, trivial⟩
  | 7, _ => exact ⟨rfl, rfl, trivial, trivial, rfl, trivial, trivial, trivial, trivial, trivial, trivial, rfl, trivial, trivial, trivial, rfl, trivial, trivial, trivial, rfl, trivial, rfl, rfl, trivial, trivial, trivial, trivial, trivial, trivial, trivial, trivial, trivial, trivial, rfl, trivial, trivial⟩
  | 8, _ => exact ⟨rfl, rfl, trivial, trivial, rfl, trivial, trivial, trivial, trivial, trivial, trivial, rfl, trivial, trivial, trivial, rfl, trivial, trivial, trivial, rfl, trivial, rfl, rfl, trivial, trivial, trivial, trivial, trivial, trivial, trivial, trivial, trivial, trivial, rfl, trivial, trivial⟩
  | 9, _ => exact ⟨rfl, rfl, trivial, trivial, rfl, trivial, trivial, trivial, trivial, trivial, trivial, rfl, trivial, trivial, trivial, rfl, trivial, trivial, trivial, rfl, trivial, rfl, rfl, trivial, trivial, trivial, trivial, trivial, trivial, trivial, trivial, trivial, trivial, rfl, trivial, trivial⟩
  | 10, _ => exact ⟨rfl, rfl, trivial, trivial, rfl, trivial, trivial, trivial, trivial, trivial, trivial, rfl, trivial, trivial, trivial, rfl, trivial, trivial, trivial, rfl, trivial, rfl, rfl, trivial, trivial, trivial, trivial, trivial, trivial, trivial, trivial, trivial, trivial, rfl, trivial, trivial⟩
  | 11, _ => exact ⟨rfl, rfl, trivial, trivial, rfl, trivial, trivial, trivial, trivial, trivial, trivial, rfl, trivial, trivial, trivial, rfl, trivial, trivial, trivial, rfl, trivial, rfl, rfl, trivial, trivial, trivial, trivial, trivial, trivial, trivial, trivial, trivial, trivial, rfl, trivial, trivial⟩
  | 12, _ => exact ⟨rfl, rfl, trivial, trivial, rfl, trivial, trivial, trivial, trivial, trivial, trivial, rfl, trivial, trivial, trivial, rfl, trivial, trivial, trivial, rfl, trivial, rfl, rfl, trivial, trivial, trivial, trivial, trivial, trivial, trivial, trivial, trivial, trivial, rfl, trivial, trivial⟩
  | 13, _ => exact ⟨rfl, rfl, trivial, trivial, rfl, trivial, trivial, trivial, trivial, trivial, trivial, rfl, trivial, trivial, trivial, rfl, trivial, trivial, trivial, rfl, trivial, rfl, rfl, trivial, trivial, trivial, trivial, trivial, trivial, trivial, trivial, trivial, trivial, rfl, trivial, trivial⟩
  | 14, _ => exact ⟨rfl, rfl, trivial, trivial, rfl, trivial, trivial, trivial, trivial, trivial, trivial, rfl, trivial, trivial, trivial, rfl, trivial, trivial, trivial, rfl, trivial, rfl, rfl, trivial, trivial, trivial, trivial, trivial, trivial, trivial, trivial, trivial, trivial, rfl, trivial, trivial⟩
  | 15, _ => exact ⟨rfl, rfl, trivial, trivial, rfl, trivial, trivial, trivial, trivial, trivial, trivial, rfl, trivial, trivial, trivial, rfl, trivial, trivial, trivial, rfl, trivial, rfl, rfl, trivial, trivial, trivial, trivial, trivial, trivial, trivial, trivial, trivial, trivial, rfl, trivial, trivial⟩
  | 16, _ => exact ⟨rfl, rfl, trivial, trivial, rfl, trivial, trivial, trivial, trivial, trivial, trivial, rfl, trivial, trivial, trivial, rfl, trivial, trivial, trivial, rfl, trivial, rfl, rfl, trivial, trivial, trivial, trivial, trivial, trivial, trivial, trivial, trivial, trivial, rfl, trivial, trivial⟩
  | 17, _ => exact ⟨rfl, rfl, trivial, trivial, rfl, trivial, trivial, trivial, trivial, trivial, trivial, rfl, trivial, trivial, trivial, rfl, trivial, trivial, trivial, rfl, trivial, rfl, rfl, trivial, trivial, trivial, trivial, trivial, trivial, trivial, trivial, trivial, trivial, rfl, trivial, trivial⟩
  | 18, _ => exact ⟨rfl, rfl, trivial, trivial, rfl, trivial, trivial, trivial, trivial, trivial, trivial, rfl, trivial, trivial, trivial, rfl, trivial, trivial, trivial, rfl, trivial, rfl, rfl, trivial, trivial, trivial, trivial, trivial, trivial, trivial, trivial, trivial, trivial, rfl, trivial, trivial⟩
  | 19, _ => exact ⟨rfl, rfl, trivial, trivial, rfl, trivial, trivial, trivial, trivial, trivial, trivial, rfl, trivial, trivial, trivial, rfl, trivial, trivial, trivial, rfl, trivial, rfl, rfl, trivial, trivial, trivial, trivial, trivial, trivial, trivial, trivial, trivial, trivial, rfl, trivial, trivial⟩
  | 20, _ => exact ⟨rfl, rfl, trivial, trivial, rfl, trivial, trivial, trivial, trivial, trivial, trivial, rfl, trivial, trivial, trivial, rfl, trivial, trivial, trivial, rfl, trivial, rfl, rfl, trivial, trivial, trivial, trivial, trivial, trivial, trivial, trivial, trivial, trivial, rfl, trivial, trivial⟩
  | 21, _ => exact ⟨rfl, rfl, trivial, trivial, rfl, trivial, trivial, trivial, trivial, trivial, trivial, rfl, trivial, trivial, trivial, rfl, trivial, trivial, trivial, rfl, trivial, rfl, rfl, trivial, trivial, trivial, trivial, trivial, trivial, trivial, trivial, trivial, trivial, rfl, trivial, trivial⟩
  | 22, _ => exact ⟨rfl, rfl, trivial, trivial, rfl, trivial, trivial, trivial, trivial, trivial, trivial, rfl, trivial, trivial, trivial, rfl, trivial, trivial, trivial, rfl, trivial, rfl, rfl, trivial, trivial, trivial, trivial, trivial, trivial, trivial, trivial, trivial, trivial, rfl, trivial, trivial⟩
  | 23, _ => exact ⟨rfl, rfl, trivial, trivial, rfl, trivial, trivial, trivial, trivial, trivial, trivial, rfl, trivial, trivial, trivial, rfl, trivial, trivial, trivial, rfl, trivial, rfl, rfl, trivial, trivial, trivial, trivial, trivial, trivial, trivial, trivial, trivial, trivial, rfl, trivial, trivial⟩
  | n + 24, h => exact absurd h (by omega)
def s_0 : ST := (0, fun _ => 0, 0, 0, fun _ => 0, fun _ => homeP, false, 0, fun _ => 0, fun _ => homeP, 0, fun _ => 0, nI 0, fun _ => 0)
theorem Dn_0 : Dn 0 (fun _ => 0) (fun _ => homeP) := ⟨Nat.zero_le _, fun j h => absurd h (Nat.not_lt_zero _), fun j _ => home_V, rfl⟩
theorem SI_0 : SI 0 (fun _ => 0) 0 0 (fun _ => 0) (fun _ => homeP) 0 (fun _ => 0) (fun _ => homeP) 0 := ⟨Nat.zero_le _, fun j h => absurd h (Nat.not_lt_zero _), Nat.le_refl _, Dn_0, Dn_0, Nat.zero_le _⟩
theorem way_0 (wc : Nat → Int32) : WayOk homeP (nI 0) wc := by
  have e : wayB nxC homeP homeP = (0, []) := by rw [wayB, if_pos rfl]
  unfold WayOk
  rw [e]
  exact ⟨rfl, Nat.zero_le _, fun _ j x h => by simp at h⟩
theorem upl_0 {x : Int64} : ∀ j, j ≤ 0 → vp_updL z64 0 x j = x := fun j h => by
  have : j = 0 := by omega
  subst this
  exact pk_uLs
theorem J_0 : Jn (wC0, mW (fun j => nI (rqc (bt homeP) j)) (fun j => nI (rqf (bt homeP) j)) (fun x => stN (who (rqc (bt homeP)) 8 x)) z32 z32 z32 z32 0 0 z32 z32 0 0 (vp_updL z64 0 (bt homeP)) z64 z32 z32 z32 0 0 (-2) z32 z32 0 0 0 0 z64 z32 z32 z32 z32 0) := by
  refine ⟨s_0, ?_, ?_⟩
  · exact ⟨_, _, _, _, _, _, _, _, _, _, _, _, _, _, _, _, _, _, _, _, _, _, _, (z32, z32, z32, z32, z32, z32, nI 0, nI 0), _, _, _, _, _, _, _, rfl, SI_0, (fun j h => absurd h (Nat.not_lt_zero _)), (fun j h => absurd h (Nat.not_lt_zero _)), upl_0, (fun j h => absurd h (Nat.not_lt_zero _)), upl_0, (fun j h => absurd h (Nat.not_lt_zero _)), (fun _ _ => rfl), way_0 _⟩
  · exact ⟨_, _, _, _, _, _, _, _, _, _, _, _, _, _, _, _, _, _, _, _, _, _, _, _, _, _, _, rfl, SI_0, (fun j h => absurd h (Nat.not_lt_zero _)), (fun j h => absurd h (Nat.not_lt_zero _)), upl_0, (fun h => by cases h), (fun h => by cases h), (fun j h => absurd h (Nat.not_lt_zero _)), (fun _ _ => rfl)⟩
theorem law_walk {nm : String} {b L : Nat} {xs : Nat → Int32} (hL : L ≤ 1536) : Rq Zl (Xl b L xs) (mLw nm) 13 59 8824 ([], []) 0 0 0 [some (.ref 5000), none, none, none] [] ([], []) := by
  refine r_new (ci := 6) (p := 0) (fs := [.null, .null, .null, .null, .int 0, .null, .null, .null, .null]) (w2 := ([.inr (6, [.null, .null, .null, .null, .int 0, .null, .null, .null, .null])], [])) dL_law_0 (by decide) nwL_7 ⟨dv_6, fun _ => rfl, rfl⟩ ⟨Nat.le_of_ble_eq_true rfl, Or.inl ⟨rfl, rfl, Nat.le_of_ble_eq_true rfl, rfl⟩⟩ rfl ⟨by decide, trivial, trivial, rfl, rfl⟩ ⟨Nat.le_of_ble_eq_true rfl, Nat.le_of_ble_eq_true rfl⟩ ?_
  refine r_dup dL_law_3 rfl ?_
  refine r_cI dL_law_4 s_iniC lL_9 rfl rfl (by decide) ⟨Nat.le_of_ble_eq_true rfl, Nat.le_of_ble_eq_true rfl⟩ (Nat.le_of_ble_eq_true rfl) ⟨rfl, rfl⟩ ⟨Nat.le_of_ble_eq_true rfl, Nat.le_of_ble_eq_true rfl⟩ ?_
  refine r_w (wC0, []) rfl ?_
  refine r_astore_n (ls' := [_, _, _, _]) dL_law_7 (show 1 < 4 by decide) rfl ?_
  refine r_pc 8 rfl ?_
  refine r_new (ci := 7) (p := 100) (fs := [.null, .null, .null, .null, .null, .null, .null, .null, .null, .int 0, .int 0, .null, .null, .int 0, .int 0, .null, .null, .null, .null, .null, .int 0, .int 0, .int 0, .null, .null, .int 0, .int 0, .int 0, .int 0, .null, .null, .null, .null, .null, .int 0]) (w2 := m0 wC0) dL_law_8 (by decide) nwL_10 ⟨dv_7, fun _ => rfl, rfl⟩ ⟨Nat.le_of_ble_eq_true rfl, Or.inr ⟨rfl, rfl⟩⟩ rfl ⟨by decide, wC0_no 100 (by decide) (by decide), trivial, rfl, rfl⟩ ⟨Nat.le_of_ble_eq_true rfl, Nat.le_of_ble_eq_true rfl⟩ ?_
  refine r_dup dL_law_11 rfl ?_
  refine r_cI dL_law_12 (s_iniM (Q := wC0) (Nat.le_of_ble_eq_true rfl) wC0_no) lL_12 rfl rfl (by decide) ⟨Nat.le_of_ble_eq_true rfl, Nat.le_of_ble_eq_true rfl⟩ (Nat.le_of_ble_eq_true rfl) ⟨rfl, rfl⟩ ⟨Nat.le_of_ble_eq_true rfl, Nat.le_of_ble_eq_true rfl⟩ ?_
  refine r_astore_n (ls' := [_, _, _, _]) dL_law_15 (show 2 < 4 by decide) rfl ?_
  refine r_iconst (v := (nI 0)) dL_law_16 (by decide) ?_
  refine r_istore_n (ls' := [_, _, _, _]) dL_law_17 (show 3 < 4 by decide) rfl ?_
  refine r_pc 18 rfl ?_
  exact law_loop hL (L + 1) 0 _ (by omega) (by omega) J_0
/-! ===== whole_start ===== -/
theorem whole_start {p : Program} {e : Env} {s : State} {m : MethodId} {below : List Frame} {meth : Method} {c : Code} (l : Launch) (hflags : l.flags = flags0) {b L : Nat} {xs : Nat → Int32} (hL : L ≤ 1536) (C0 : lw_At p s m meth c b L xs) : W p l e room_1 s m #[Value.ref b] below meth c s.heap [] 0 0 (lw_Z below #[Value.ref b] s) (entryFrame m ([Value.ref b] : List Value).toArray 4) := by
  obtain ⟨hx, hb, hr, hml, hown, hts, hX, hbl, hlocks, hgv⟩ := id C0
  have hA : ∀ q : Nat, s.heap.size ≤ q → (fun q : Nat => s.heap.size ≤ q) q := fun _ h => h
  have hbA : ¬ (fun q : Nat => s.heap.size ≤ q) b := Nat.not_le.mpr hbl
  have hno : ∀ a : Nat, a < s.heap.size → ¬ (fun q : Nat => s.heap.size ≤ q) a := fun a h => Nat.not_le.mpr h
  have hgd : ∀ w ∈ lw_gd, w.before #[Value.ref b] s = true := fun w h => hts w (List.mem_filter.mp h).1
  obtain ⟨ad, had5, hSt⟩ := st_all (A := fun q : Nat => s.heap.size ≤ q) b (flat_of_before _ hgv) hts hno
  obtain ⟨c0, i0, hKn0⟩ := u_known (C := RX0) (T := TX0) (N := 5) (n := 5) hgd cl_in0 (hgd _ (gd_mem (List.mem_of_getElem? (i := 143) (by decide +kernel)) rfl))
  obtain ⟨c1, i1, hKn1⟩ := u_known (C := RX1) (T := TX1) (N := 3) (n := 3) hgd cl_in1 (hgd _ (gd_mem (List.mem_of_getElem? (i := 181) (by decide +kernel)) rfl))
  obtain ⟨c2, i2, hKn2⟩ := u_known (C := RX2) (T := TX2) (N := 8) (n := 8) hgd cl_in2 (hgd _ (gd_mem (List.mem_of_getElem? (i := 106) (by decide +kernel)) rfl))
  obtain ⟨c3, i3, hKn3⟩ := u_known (C := RX4) (T := TX4) (N := 3) (n := 3) hgd cl_in4 (hgd _ (gd_mem (List.mem_of_getElem? (i := 239) (by decide +kernel)) rfl))
  obtain ⟨c4, i4, hKn4⟩ := u_known (C := RX5) (T := TX5) (N := 4) (n := 4) hgd cl_in5 (hgd _ (gd_mem (List.mem_of_getElem? (i := 84) (by decide +kernel)) rfl))
  obtain ⟨c5, i5, hKn5⟩ := u_known (C := RX6) (T := TX6) (N := 9) (n := 9) hgd cl_in6 (hgd _ (gd_mem (List.mem_of_getElem? (i := 200) (by decide +kernel)) rfl))
  obtain ⟨c6, i6, hKn6⟩ := u_known (C := RX8) (T := TX8) (N := 9) (n := 9) hgd cl_in8 (hgd _ (gd_mem (List.mem_of_getElem? (i := 76) (by decide +kernel)) rfl))
  obtain ⟨c7, i7, hKn7⟩ := u_known (C := RX9) (T := TX9) (N := 35) (n := 35) hgd cl_in9 (hgd _ (gd_mem (List.mem_of_getElem? (i := 732) (by decide +kernel)) rfl))
  obtain ⟨a0, k0, p0, f0, g0, h0⟩ := Cond.arrayClass_spec (hgd _ ac_int)
  obtain ⟨a1, k1, p1, f1, g1, h1⟩ := Cond.arrayClass_spec (hgd _ ac_long)
  obtain ⟨a2, k2, p2, f2, g2, h2⟩ := Cond.arrayClass_spec (hgd _ ac_boolean)
  obtain ⟨p3, a3, k3, d3, -, g3, h3, f3⟩ := Cond.arrayOver_spec (hts (.arrayOver (.object "java/lang/String")) (List.mem_of_getElem? (i := 738) (by decide +kernel)))
  have hK : va_K ((fun k => match k with | 0 => c0 | 1 => c1 | 2 => c2 | 3 => c3 | 4 => c4 | 5 => c5 | 6 => c6 | _ => c7), (fun k => match k with | 0 => i0 | 1 => i1 | 2 => i2 | 3 => i3 | 4 => i4 | 5 => i5 | 6 => i6 | _ => i7)) vwCl (tyl (fun t => match t with | 0 => a0 | 1 => a1 | 2 => a2 | _ => a3)) s := by
    refine ⟨fun k q hq => ?_, fun k q hq => ?_⟩
    · match k, hq with
      | 0, hq => cases hq; exact hKn0
      | 1, hq => cases hq; exact hKn1
      | 2, hq => cases hq; exact hKn2
      | 3, hq => cases hq; exact hKn3
      | 4, hq => cases hq; exact hKn4
      | 5, hq => cases hq; exact hKn5
      | 6, hq => cases hq; exact hKn6
      | 7, hq => cases hq; exact hKn7
      | k + 8, hq => simp [vwCl] at hq
    · match k, hq with
      | 0, hq => cases hq; exact ⟨fun n z => ⟨(fun k h => by cases h), k0, g0, p0, h0⟩, f0⟩
      | 1, hq => cases hq; exact ⟨fun n z => ⟨(fun k h => by cases h), k1, g1, p1, h1⟩, f1⟩
      | 2, hq => cases hq; exact ⟨fun n z => ⟨(fun k h => by cases h), k2, g2, p2, h2⟩, f2⟩
      | 3, hq => cases hq; exact ⟨fun n z => ⟨(fun k h => by cases h), k3, g3, p3, h3⟩, k3, p3, g3, h3, d3, f3⟩
      | k + 4, hq => simp [tyl] at hq
  have hl := lv_entry ([.ref b]) (n := 4) (Nat.le_of_ble_eq_true rfl)
  rw [lg_entry_eq]
  exact law_walk (nm := meth.name) (b := b) (xs := xs) hL p l e s m #[Value.ref b] below meth c _ _ ad (fun q : Nat => s.heap.size ≤ q) ⟨hx, hb, hml, hr, hlocks, rfl, hown, hgd, hK, hA, hSt⟩ ⟨rfl, hX, hbl, hbA, had5, fun _ h => h⟩ ad s.heap [] _ ⟨fun _ => rfl, fun _ _ => rfl⟩ (fun k q h => by simp [cw, cwl] at h) ⟨fun i j p q h => by simp [cw, cwl] at h, fun k q h => by simp [cw, cwl] at h⟩ va_S.rf (by
    refine lv_mono hl (fun q hq => ?_)
    have hq : q ∈ [(0, Value.ref (ad 5000))] := hq
    rw [had5] at hq
    exact hq)
