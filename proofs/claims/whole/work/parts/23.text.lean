abbrev mJ0_length_8abf5 : MI := (yJ0_length_8abf5, cJ0_length_8abf5, 1, (some .int))
abbrev mJ0_charAt_5068e : MI := (yJ0_charAt_5068e, cJ0_charAt_5068e, 2, (some .char))
abbrev mJ0_coder_7d493 : MI := (yJ0_coder_7d493, cJ0_coder_7d493, 1, (some .byte))
abbrev mJ0_isLatin1_aae02 : MI := (yJ0_isLatin1_aae02, cJ0_isLatin1_aae02, 1, (some .boolean))
abbrev mJ0_checkIndex_df160 : MI := (yJ0_checkIndex_df160, cJ0_checkIndex_df160, 2, none)
abbrev mJ1_charAt_3b067 : MI := (yJ1_charAt_3b067, cJ1_charAt_3b067, 2, (some .char))
abbrev mJ3_checkIndex_8e157 : MI := (yJ3_checkIndex_8e157, cJ3_checkIndex_8e157, 3, (some .int))
abbrev mJ9_max_7cf53 : MI := (yJ9_max_7cf53, cJ9_max_7cf53, 2, (some .int))
abbrev mJ9_min_f86c9 : MI := (yJ9_min_f86c9, cJ9_min_f86c9, 4, (some .long))
theorem dJ9_max_7cf53_0 : decode cJ9_max_7cf53 0 = .ok (.iload_n 0, 1) := by decide +kernel
theorem dJ9_max_7cf53_1 : decode cJ9_max_7cf53 1 = .ok (.iload_n 1, 1) := by decide +kernel
theorem dJ9_max_7cf53_2 : decode cJ9_max_7cf53 2 = .ok (.if_icmp .lt 7, 3) := by decide +kernel
theorem dJ9_max_7cf53_5 : decode cJ9_max_7cf53 5 = .ok (.iload_n 0, 1) := by decide +kernel
theorem dJ9_max_7cf53_6 : decode cJ9_max_7cf53 6 = .ok (.goto 4, 3) := by decide +kernel
theorem dJ9_max_7cf53_9 : decode cJ9_max_7cf53 9 = .ok (.iload_n 1, 1) := by decide +kernel
theorem dJ9_max_7cf53_10 : decode cJ9_max_7cf53 10 = .ok (.ireturn, 1) := by decide +kernel
theorem dJ9_min_f86c9_0 : decode cJ9_min_f86c9 0 = .ok (.lload_n 0, 1) := by decide +kernel
theorem dJ9_min_f86c9_1 : decode cJ9_min_f86c9 1 = .ok (.lload_n 2, 1) := by decide +kernel
theorem dJ9_min_f86c9_2 : decode cJ9_min_f86c9 2 = .ok (.lcmp, 1) := by decide +kernel
theorem dJ9_min_f86c9_3 : decode cJ9_min_f86c9 3 = .ok (.ifCond .gt 7, 3) := by decide +kernel
theorem dJ9_min_f86c9_6 : decode cJ9_min_f86c9 6 = .ok (.lload_n 0, 1) := by decide +kernel
theorem dJ9_min_f86c9_7 : decode cJ9_min_f86c9 7 = .ok (.goto 4, 3) := by decide +kernel
theorem dJ9_min_f86c9_10 : decode cJ9_min_f86c9 10 = .ok (.lload_n 2, 1) := by decide +kernel
theorem dJ9_min_f86c9_11 : decode cJ9_min_f86c9 11 = .ok (.lreturn, 1) := by decide +kernel
theorem dJ0_length_8abf5_0 : decode cJ0_length_8abf5 0 = .ok (.aload_n 0, 1) := by decide +kernel
theorem dJ0_length_8abf5_1 : decode cJ0_length_8abf5 1 = .ok (.getfield 9, 3) := by decide +kernel
theorem dJ0_length_8abf5_4 : decode cJ0_length_8abf5 4 = .ok (.arraylength, 1) := by decide +kernel
theorem dJ0_length_8abf5_5 : decode cJ0_length_8abf5 5 = .ok (.aload_n 0, 1) := by decide +kernel
theorem dJ0_length_8abf5_6 : decode cJ0_length_8abf5 6 = .ok (.invokevirtual 335, 3) := by decide +kernel
theorem dJ0_length_8abf5_9 : decode cJ0_length_8abf5 9 = .ok (.ishr, 1) := by decide +kernel
theorem dJ0_length_8abf5_10 : decode cJ0_length_8abf5 10 = .ok (.ireturn, 1) := by decide +kernel
theorem dJ0_charAt_5068e_0 : decode cJ0_charAt_5068e 0 = .ok (.aload_n 0, 1) := by decide +kernel
theorem dJ0_charAt_5068e_1 : decode cJ0_charAt_5068e 1 = .ok (.invokevirtual 492, 3) := by decide +kernel
theorem dJ0_charAt_5068e_4 : decode cJ0_charAt_5068e 4 = .ok (.ifCond .eq 12, 3) := by decide +kernel
theorem dJ0_charAt_5068e_7 : decode cJ0_charAt_5068e 7 = .ok (.aload_n 0, 1) := by decide +kernel
theorem dJ0_charAt_5068e_8 : decode cJ0_charAt_5068e 8 = .ok (.getfield 9, 3) := by decide +kernel
theorem dJ0_charAt_5068e_11 : decode cJ0_charAt_5068e 11 = .ok (.iload_n 1, 1) := by decide +kernel
theorem dJ0_charAt_5068e_12 : decode cJ0_charAt_5068e 12 = .ok (.invokestatic 495, 3) := by decide +kernel
theorem dJ0_charAt_5068e_15 : decode cJ0_charAt_5068e 15 = .ok (.ireturn, 1) := by decide +kernel
theorem dJ0_charAt_5068e_16 : decode cJ0_charAt_5068e 16 = .ok (.aload_n 0, 1) := by decide +kernel
theorem dJ0_charAt_5068e_17 : decode cJ0_charAt_5068e 17 = .ok (.getfield 9, 3) := by decide +kernel
theorem dJ0_charAt_5068e_20 : decode cJ0_charAt_5068e 20 = .ok (.iload_n 1, 1) := by decide +kernel
theorem dJ0_charAt_5068e_21 : decode cJ0_charAt_5068e 21 = .ok (.invokestatic 498, 3) := by decide +kernel
theorem dJ0_charAt_5068e_24 : decode cJ0_charAt_5068e 24 = .ok (.ireturn, 1) := by decide +kernel
theorem dJ0_coder_7d493_0 : decode cJ0_coder_7d493 0 = .ok (.getstatic 38, 3) := by decide +kernel
theorem dJ0_coder_7d493_3 : decode cJ0_coder_7d493 3 = .ok (.ifCond .eq 10, 3) := by decide +kernel
theorem dJ0_coder_7d493_6 : decode cJ0_coder_7d493 6 = .ok (.aload_n 0, 1) := by decide +kernel
theorem dJ0_coder_7d493_7 : decode cJ0_coder_7d493 7 = .ok (.getfield 15, 3) := by decide +kernel
theorem dJ0_coder_7d493_10 : decode cJ0_coder_7d493 10 = .ok (.goto 4, 3) := by decide +kernel
theorem dJ0_coder_7d493_13 : decode cJ0_coder_7d493 13 = .ok (.iconst 1, 1) := by decide +kernel
theorem dJ0_coder_7d493_14 : decode cJ0_coder_7d493 14 = .ok (.ireturn, 1) := by decide +kernel
theorem dJ0_isLatin1_aae02_0 : decode cJ0_isLatin1_aae02 0 = .ok (.getstatic 38, 3) := by decide +kernel
theorem dJ0_isLatin1_aae02_3 : decode cJ0_isLatin1_aae02 3 = .ok (.ifCond .eq 14, 3) := by decide +kernel
theorem dJ0_isLatin1_aae02_6 : decode cJ0_isLatin1_aae02 6 = .ok (.aload_n 0, 1) := by decide +kernel
theorem dJ0_isLatin1_aae02_7 : decode cJ0_isLatin1_aae02 7 = .ok (.getfield 15, 3) := by decide +kernel
theorem dJ0_isLatin1_aae02_10 : decode cJ0_isLatin1_aae02 10 = .ok (.ifCond .ne 7, 3) := by decide +kernel
theorem dJ0_isLatin1_aae02_13 : decode cJ0_isLatin1_aae02 13 = .ok (.iconst 1, 1) := by decide +kernel
theorem dJ0_isLatin1_aae02_14 : decode cJ0_isLatin1_aae02 14 = .ok (.goto 4, 3) := by decide +kernel
theorem dJ0_isLatin1_aae02_17 : decode cJ0_isLatin1_aae02 17 = .ok (.iconst 0, 1) := by decide +kernel
theorem dJ0_isLatin1_aae02_18 : decode cJ0_isLatin1_aae02 18 = .ok (.ireturn, 1) := by decide +kernel
theorem dJ0_checkIndex_df160_0 : decode cJ0_checkIndex_df160 0 = .ok (.iload_n 0, 1) := by decide +kernel
theorem dJ0_checkIndex_df160_1 : decode cJ0_checkIndex_df160 1 = .ok (.iload_n 1, 1) := by decide +kernel
theorem dJ0_checkIndex_df160_2 : decode cJ0_checkIndex_df160 2 = .ok (.getstatic 1053, 3) := by decide +kernel
theorem dJ0_checkIndex_df160_5 : decode cJ0_checkIndex_df160 5 = .ok (.invokestatic 1059, 3) := by decide +kernel
theorem dJ0_checkIndex_df160_8 : decode cJ0_checkIndex_df160 8 = .ok (.pop, 1) := by decide +kernel
theorem dJ0_checkIndex_df160_9 : decode cJ0_checkIndex_df160 9 = .ok (.return_, 1) := by decide +kernel
theorem dJ1_charAt_3b067_0 : decode cJ1_charAt_3b067 0 = .ok (.iload_n 1, 1) := by decide +kernel
theorem dJ1_charAt_3b067_1 : decode cJ1_charAt_3b067 1 = .ok (.aload_n 0, 1) := by decide +kernel
theorem dJ1_charAt_3b067_2 : decode cJ1_charAt_3b067 2 = .ok (.arraylength, 1) := by decide +kernel
theorem dJ1_charAt_3b067_3 : decode cJ1_charAt_3b067 3 = .ok (.invokestatic 9, 3) := by decide +kernel
theorem dJ1_charAt_3b067_6 : decode cJ1_charAt_3b067 6 = .ok (.aload_n 0, 1) := by decide +kernel
theorem dJ1_charAt_3b067_7 : decode cJ1_charAt_3b067 7 = .ok (.iload_n 1, 1) := by decide +kernel
theorem dJ1_charAt_3b067_8 : decode cJ1_charAt_3b067 8 = .ok (.baload, 1) := by decide +kernel
theorem dJ1_charAt_3b067_9 : decode cJ1_charAt_3b067 9 = .ok (.sipush 255, 3) := by decide +kernel
theorem dJ1_charAt_3b067_12 : decode cJ1_charAt_3b067 12 = .ok (.iand, 1) := by decide +kernel
theorem dJ1_charAt_3b067_13 : decode cJ1_charAt_3b067 13 = .ok (.i2c, 1) := by decide +kernel
theorem dJ1_charAt_3b067_14 : decode cJ1_charAt_3b067 14 = .ok (.ireturn, 1) := by decide +kernel
theorem dJ3_checkIndex_8e157_0 : decode cJ3_checkIndex_8e157 0 = .ok (.iload_n 0, 1) := by decide +kernel
theorem dJ3_checkIndex_8e157_1 : decode cJ3_checkIndex_8e157 1 = .ok (.ifCond .lt 8, 3) := by decide +kernel
theorem dJ3_checkIndex_8e157_4 : decode cJ3_checkIndex_8e157 4 = .ok (.iload_n 0, 1) := by decide +kernel
theorem dJ3_checkIndex_8e157_5 : decode cJ3_checkIndex_8e157 5 = .ok (.iload_n 1, 1) := by decide +kernel
theorem dJ3_checkIndex_8e157_6 : decode cJ3_checkIndex_8e157 6 = .ok (.if_icmp .lt 10, 3) := by decide +kernel
theorem dJ3_checkIndex_8e157_9 : decode cJ3_checkIndex_8e157 9 = .ok (.aload_n 2, 1) := by decide +kernel
theorem dJ3_checkIndex_8e157_10 : decode cJ3_checkIndex_8e157 10 = .ok (.iload_n 0, 1) := by decide +kernel
theorem dJ3_checkIndex_8e157_11 : decode cJ3_checkIndex_8e157 11 = .ok (.iload_n 1, 1) := by decide +kernel
theorem dJ3_checkIndex_8e157_12 : decode cJ3_checkIndex_8e157 12 = .ok (.invokestatic 95, 3) := by decide +kernel
theorem dJ3_checkIndex_8e157_15 : decode cJ3_checkIndex_8e157 15 = .ok (.athrow, 1) := by decide +kernel
theorem dJ3_checkIndex_8e157_16 : decode cJ3_checkIndex_8e157 16 = .ok (.iload_n 0, 1) := by decide +kernel
theorem dJ3_checkIndex_8e157_17 : decode cJ3_checkIndex_8e157 17 = .ok (.ireturn, 1) := by decide +kernel
/-- a text's method, as entry idx of class own names it -/
def MLT (own : String) (idx : Nat) (M2 : MI) (n : Nat) : Prop := ML own idx M2 n ∧ M2.1.cls = "java/lang/String" ∧ Cond.instanceMethod M2.1 ∈ lw_gd ∧ Cond.selects M2.1.cls M2.1 M2.1 ∈ lw_gd
theorem lJ0_335 : MLT RJ0 335 mJ0_coder_7d493 0 := ⟨⟨Or.inl (gd_mem (List.mem_of_getElem? (i := 344) (by decide +kernel)) rfl), gd_mem (List.mem_of_getElem? (i := 69) (by decide +kernel)) rfl, gd_mem (List.mem_of_getElem? (i := 347) (by decide +kernel)) rfl, by decide +kernel⟩, rfl, gd_mem (List.mem_of_getElem? (i := 345) (by decide +kernel)) rfl, gd_mem (List.mem_of_getElem? (i := 346) (by decide +kernel)) rfl⟩
theorem lJ0_492 : MLT RJ0 492 mJ0_isLatin1_aae02 0 := ⟨⟨Or.inl (gd_mem (List.mem_of_getElem? (i := 354) (by decide +kernel)) rfl), gd_mem (List.mem_of_getElem? (i := 69) (by decide +kernel)) rfl, gd_mem (List.mem_of_getElem? (i := 357) (by decide +kernel)) rfl, by decide +kernel⟩, rfl, gd_mem (List.mem_of_getElem? (i := 355) (by decide +kernel)) rfl, gd_mem (List.mem_of_getElem? (i := 356) (by decide +kernel)) rfl⟩
theorem lJ0_495 : MLS RJ0 495 mJ1_charAt_3b067 2 := ⟨⟨Or.inl (gd_mem (List.mem_of_getElem? (i := 358) (by decide +kernel)) rfl), gd_mem (List.mem_of_getElem? (i := 70) (by decide +kernel)) rfl, gd_mem (List.mem_of_getElem? (i := 360) (by decide +kernel)) rfl, by decide +kernel⟩, gd_mem (List.mem_of_getElem? (i := 359) (by decide +kernel)) rfl⟩
theorem lJ0_1059 : MLS RJ0 1059 mJ3_checkIndex_8e157 3 := ⟨⟨Or.inl (gd_mem (List.mem_of_getElem? (i := 366) (by decide +kernel)) rfl), gd_mem (List.mem_of_getElem? (i := 71) (by decide +kernel)) rfl, gd_mem (List.mem_of_getElem? (i := 368) (by decide +kernel)) rfl, by decide +kernel⟩, gd_mem (List.mem_of_getElem? (i := 367) (by decide +kernel)) rfl⟩
theorem lJ1_9 : MLS RJ1 9 mJ0_checkIndex_df160 2 := ⟨⟨Or.inl (gd_mem (List.mem_of_getElem? (i := 361) (by decide +kernel)) rfl), gd_mem (List.mem_of_getElem? (i := 69) (by decide +kernel)) rfl, gd_mem (List.mem_of_getElem? (i := 363) (by decide +kernel)) rfl, by decide +kernel⟩, gd_mem (List.mem_of_getElem? (i := 362) (by decide +kernel)) rfl⟩
theorem lX9_211 : MLT RX9 211 mJ0_length_8abf5 0 := ⟨⟨Or.inl (gd_mem (List.mem_of_getElem? (i := 906) (by decide +kernel)) rfl), gd_mem (List.mem_of_getElem? (i := 69) (by decide +kernel)) rfl, gd_mem (List.mem_of_getElem? (i := 343) (by decide +kernel)) rfl, by decide +kernel⟩, rfl, gd_mem (List.mem_of_getElem? (i := 341) (by decide +kernel)) rfl, gd_mem (List.mem_of_getElem? (i := 342) (by decide +kernel)) rfl⟩
theorem lX9_215 : MLT RX9 215 mJ0_charAt_5068e 1 := ⟨⟨Or.inl (gd_mem (List.mem_of_getElem? (i := 907) (by decide +kernel)) rfl), gd_mem (List.mem_of_getElem? (i := 69) (by decide +kernel)) rfl, gd_mem (List.mem_of_getElem? (i := 353) (by decide +kernel)) rfl, by decide +kernel⟩, rfl, gd_mem (List.mem_of_getElem? (i := 351) (by decide +kernel)) rfl, gd_mem (List.mem_of_getElem? (i := 352) (by decide +kernel)) rfl⟩
theorem lX9_242 : MLS RX9 242 mJ9_max_7cf53 2 := ⟨⟨Or.inl (gd_mem (List.mem_of_getElem? (i := 916) (by decide +kernel)) rfl), gd_mem (List.mem_of_getElem? (i := 73) (by decide +kernel)) rfl, gd_mem (List.mem_of_getElem? (i := 918) (by decide +kernel)) rfl, by decide +kernel⟩, gd_mem (List.mem_of_getElem? (i := 917) (by decide +kernel)) rfl⟩
theorem lX4_55 : MLT RX4 55 mJ0_length_8abf5 0 := ⟨⟨Or.inl (gd_mem (List.mem_of_getElem? (i := 695) (by decide +kernel)) rfl), gd_mem (List.mem_of_getElem? (i := 69) (by decide +kernel)) rfl, gd_mem (List.mem_of_getElem? (i := 343) (by decide +kernel)) rfl, by decide +kernel⟩, rfl, gd_mem (List.mem_of_getElem? (i := 341) (by decide +kernel)) rfl, gd_mem (List.mem_of_getElem? (i := 342) (by decide +kernel)) rfl⟩
theorem lX4_60 : MLT RX4 60 mJ0_charAt_5068e 1 := ⟨⟨Or.inl (gd_mem (List.mem_of_getElem? (i := 696) (by decide +kernel)) rfl), gd_mem (List.mem_of_getElem? (i := 69) (by decide +kernel)) rfl, gd_mem (List.mem_of_getElem? (i := 353) (by decide +kernel)) rfl, by decide +kernel⟩, rfl, gd_mem (List.mem_of_getElem? (i := 351) (by decide +kernel)) rfl, gd_mem (List.mem_of_getElem? (i := 352) (by decide +kernel)) rfl⟩
theorem lX5_63 : MLT RX5 63 mJ0_length_8abf5 0 := ⟨⟨Or.inl (gd_mem (List.mem_of_getElem? (i := 340) (by decide +kernel)) rfl), gd_mem (List.mem_of_getElem? (i := 69) (by decide +kernel)) rfl, gd_mem (List.mem_of_getElem? (i := 343) (by decide +kernel)) rfl, by decide +kernel⟩, rfl, gd_mem (List.mem_of_getElem? (i := 341) (by decide +kernel)) rfl, gd_mem (List.mem_of_getElem? (i := 342) (by decide +kernel)) rfl⟩
theorem lX5_67 : MLT RX5 67 mJ0_charAt_5068e 1 := ⟨⟨Or.inl (gd_mem (List.mem_of_getElem? (i := 350) (by decide +kernel)) rfl), gd_mem (List.mem_of_getElem? (i := 69) (by decide +kernel)) rfl, gd_mem (List.mem_of_getElem? (i := 353) (by decide +kernel)) rfl, by decide +kernel⟩, rfl, gd_mem (List.mem_of_getElem? (i := 351) (by decide +kernel)) rfl, gd_mem (List.mem_of_getElem? (i := 352) (by decide +kernel)) rfl⟩
theorem lX3_37 : MLS RX3 37 mJ9_min_f86c9 2 := ⟨⟨Or.inl (gd_mem (List.mem_of_getElem? (i := 664) (by decide +kernel)) rfl), gd_mem (List.mem_of_getElem? (i := 73) (by decide +kernel)) rfl, gd_mem (List.mem_of_getElem? (i := 666) (by decide +kernel)) rfl, by decide +kernel⟩, gd_mem (List.mem_of_getElem? (i := 665) (by decide +kernel)) rfl⟩
theorem fJ0_9 : Cond.fieldLink RJ0 9 "java/lang/String" "value" "[B" ∈ lw_gd := gd_mem (List.mem_of_getElem? (i := 1087) (by decide +kernel)) rfl
theorem fJ0_15 : Cond.fieldLink RJ0 15 "java/lang/String" "coder" "B" ∈ lw_gd := gd_mem (List.mem_of_getElem? (i := 1088) (by decide +kernel)) rfl
theorem fJ0_38 : Cond.fieldLink RJ0 38 "java/lang/String" "COMPACT_STRINGS" "Z" ∈ lw_gd := gd_mem (List.mem_of_getElem? (i := 348) (by decide +kernel)) rfl
theorem fJ0_1053 : Cond.fieldLink RJ0 1053 "jdk/internal/util/Preconditions" "SIOOBE_FORMATTER" "Ljava/util/function/BiFunction;" ∈ lw_gd := gd_mem (List.mem_of_getElem? (i := 364) (by decide +kernel)) rfl
section RS
variable {Z : ZT} {X : XT} {M : MI} {k mc ms : Nat} {w0 : WD} {nc ns pc : Nat} {ls : List (Option Value)} {st : List Value} {w : WD}
theorem r_ldcS {idx i : Nat} (hd : decode M.2.1 pc = .ok (.ldc idx, 2)) (hr : (M.1.cls, idx, i) ∈ zt_ref) (K : Rq Z X M k mc ms w0 nc ns (pc + 2) ls (.ref (2000 + i) :: st) w) : Rq Z X M k mc ms w0 nc ns pc ls st w := by
  intro p l e s m args below meth c D cA ad0 A hC hX ad H locs lsA hg hP hD hS hl
  have K := K p l e s m args below meth c D cA ad0 A hC hX ad H locs lsA hg hP hD hS hl
  obtain ⟨hx, hb, hml, hrt, hlk, hnm, hown, hts, hK, hA, hSt⟩ := hC
  have hZ := hSt.2.2.1.1 _ hr
  rw [← hg.2 _ (Or.inr (show 1000 ≤ 2000 + i by omega))] at hZ
  exact va_ldcS hx hb hown hZ hd K
theorem r_scod {idx i : Nat} {q : List Nat} (hd : decode M.2.1 pc = .ok (.getfield idx, 3)) (hf : Cond.fieldLink M.1.cls idx "java/lang/String" "coder" "B" ∈ lw_gd) (hq : zt_str[i]? = some q) (K : Rq Z X M k mc ms w0 nc ns (pc + 3) ls (.int 0 :: st) w) : Rq Z X M k mc ms w0 nc ns pc ls (.ref (2000 + i) :: st) w := by
  intro p l e s m args below meth c D cA ad0 A hC hX ad H locs lsA hg hP hD hS hl
  have K := K p l e s m args below meth c D cA ad0 A hC hX ad H locs lsA hg hP hD hS hl
  obtain ⟨hx, hb, hml, hrt, hlk, hnm, hown, hts, hK, hA, hSt⟩ := hC
  have hZ := (hSt.2.1 i q hq).2.1
  rw [← hg.2 _ (Or.inr (show 1000 ≤ 2000 + i by omega))] at hZ
  exact vk_getf hx hb hZ hS hown (hts _ hf) (fun _ h => h) hd K
theorem r_sval {idx i : Nat} {q : List Nat} (hd : decode M.2.1 pc = .ok (.getfield idx, 3)) (hf : Cond.fieldLink M.1.cls idx "java/lang/String" "value" "[B" ∈ lw_gd) (hq : zt_str[i]? = some q) (K : Rq Z X M k mc ms w0 nc ns (pc + 3) ls (.ref (3000 + i) :: st) w) : Rq Z X M k mc ms w0 nc ns pc ls (.ref (2000 + i) :: st) w := by
  intro p l e s m args below meth c D cA ad0 A hC hX ad H locs lsA hg hP hD hS hl
  have K := K p l e s m args below meth c D cA ad0 A hC hX ad H locs lsA hg hP hD hS hl
  obtain ⟨hx, hb, hml, hrt, hlk, hnm, hown, hts, hK, hA, hSt⟩ := hC
  have hZ := (hSt.2.1 i q hq).2.2.1
  rw [← hg.2 _ (Or.inr (show 1000 ≤ 2000 + i by omega)), ← hg.2 _ (Or.inr (show 1000 ≤ 3000 + i by omega))] at hZ
  exact vk_getf hx hb hZ hS hown (hts _ hf) (fun _ h => h) hd K
theorem r_slen {i : Nat} {q : List Nat} (hd : decode M.2.1 pc = .ok (.arraylength, 1)) (hq : zt_str[i]? = some q) (K : Rq Z X M k mc ms w0 nc ns (pc + 1) ls (.int (nI q.length) :: st) w) : Rq Z X M k mc ms w0 nc ns pc ls (.ref (3000 + i) :: st) w := by
  intro p l e s m args below meth c D cA ad0 A hC hX ad H locs lsA hg hP hD hS hl
  have K := K p l e s m args below meth c D cA ad0 A hC hX ad H locs lsA hg hP hD hS hl
  obtain ⟨hx, hb, hml, hrt, hlk, hnm, hown, hts, hK, hA, hSt⟩ := hC
  have hZ := (hSt.2.1 i q hq).2.2.2
  rw [← hg.2 _ (Or.inr (show 1000 ≤ 3000 + i by omega))] at hZ
  exact va_tlen hx hb hZ hS rfl hd K
theorem r_sbld {i j : Nat} {q : List Nat} (hd : decode M.2.1 pc = .ok (.baload, 1)) (hq : zt_str[i]? = some q) (hj : j < q.length) (hn : q.length < 2 ^ 31) (K : Rq Z X M k mc ms w0 nc ns (pc + 1) ls (.int (nI (q.getD j 0)) :: st) w) : Rq Z X M k mc ms w0 nc ns pc ls (.int (nI j) :: .ref (3000 + i) :: st) w := by
  intro p l e s m args below meth c D cA ad0 A hC hX ad H locs lsA hg hP hD hS hl
  have K := K p l e s m args below meth c D cA ad0 A hC hX ad H locs lsA hg hP hD hS hl
  obtain ⟨hx, hb, hml, hrt, hlk, hnm, hown, hts, hK, hA, hSt⟩ := hC
  have hZ := (hSt.2.1 i q hq).2.2.2
  rw [← hg.2 _ (Or.inr (show 1000 ≤ 3000 + i by omega))] at hZ
  exact va_tb hx hb hZ hS (vp_in_nI hj hn) (v := .int (nI (q.getD j 0))) (by rw [nI_clamp (Nat.lt_trans hj hn)]) hd K
theorem r_cmpS {idx : Nat} (hd : decode M.2.1 pc = .ok (.getstatic idx, 3)) (hf : Cond.fieldLink M.1.cls idx "java/lang/String" "COMPACT_STRINGS" "Z" ∈ lw_gd) (K : Rq Z X M k mc ms w0 nc ns (pc + 3) ls (.int 1 :: st) w) : Rq Z X M k mc ms w0 nc ns pc ls st w := by
  intro p l e s m args below meth c D cA ad0 A hC hX ad H locs lsA hg hP hD hS hl
  have K := K p l e s m args below meth c D cA ad0 A hC hX ad H locs lsA hg hP hD hS hl
  obtain ⟨hx, hb, hml, hrt, hlk, hnm, hown, hts, hK, hA, hSt⟩ := hC
  exact va_gets hx hb hSt.2.2.2.1 hS hown (hts _ hf) (fun _ h => h) hd K
theorem r_sioo {idx : Nat} (hd : decode M.2.1 pc = .ok (.getstatic idx, 3)) (hf : Cond.fieldLink M.1.cls idx "jdk/internal/util/Preconditions" "SIOOBE_FORMATTER" "Ljava/util/function/BiFunction;" ∈ lw_gd) (K1 : Rq Z X M k mc ms w0 nc ns (pc + 3) ls (.null :: st) w) (K2 : Rq Z X M k mc ms w0 nc ns (pc + 3) ls (.ref 4000 :: st) w) : Rq Z X M k mc ms w0 nc ns pc ls st w := by
  intro p l e s m args below meth c D cA ad0 A hC hX ad H locs lsA hg hP hD hS hl
  have K1 := K1 p l e s m args below meth c D cA ad0 A hC hX ad H locs lsA hg hP hD hS hl
  have K2 := K2 p l e s m args below meth c D cA ad0 A hC hX ad H locs lsA hg hP hD hS hl
  obtain ⟨hx, hb, hml, hrt, hlk, hnm, hown, hts, hK, hA, hSt⟩ := hC
  have hZ := hSt.2.2.2.2
  rw [← hg.2 4000 (Or.inr (by decide))] at hZ
  rcases hZ with hZ | hZ
  · exact va_gets hx hb hZ hS hown (hts _ hf) (fun _ h => h) hd K1
  · exact va_gets hx hb hZ hS hown (hts _ hf) (fun _ h => h) hd K2
theorem r_i2c {x v : Int32} (hd : decode M.2.1 pc = .ok (.i2c, 1)) (hv : (x.toUInt32 % 65536).toInt32 = v) (K : Rq Z X M k mc ms w0 nc ns (pc + 1) ls (.int v :: st) w) : Rq Z X M k mc ms w0 nc ns pc ls (.int x :: st) w := by
  intro p l e s m args below meth c D cA ad0 A hC hX ad H locs lsA hg hP hD hS hl
  have K := K p l e s m args below meth c D cA ad0 A hC hX ad H locs lsA hg hP hD hS hl
  obtain ⟨hx, hb, hml, hrt, hlk, hnm, hown, hts, hK, hA, hSt⟩ := hC
  exact lv_i2c hx hb hd hv K
theorem r_aald {q n j p0 : Nat} {f : Nat → Option Nat} {i : Int32} (hd : decode M.2.1 pc = .ok (.aaload, 1)) (hw : wg w q = some (.inl (3, n, .inr (.inr (.inr (.inr f)))))) (hi : i = nI j) (hj : j < n) (hn : n < 2 ^ 31) (hf : f j = some p0) (K : Rq Z X M k mc ms w0 nc ns (pc + 1) ls (.ref p0 :: st) w) : Rq Z X M k mc ms w0 nc ns pc ls (.int i :: .ref q :: st) w := by
  subst hi
  intro p l e s m args below meth c D cA ad0 A hC hX ad H locs lsA hg hP hD hS hl
  have K := K p l e s m args below meth c D cA ad0 A hC hX ad H locs lsA hg hP hD hS hl
  obtain ⟨hx, hb, hml, hrt, hlk, hnm, hown, hts, hK, hA, hSt⟩ := hC
  obtain ⟨q0, hq, -⟩ := cw_at (ad := ad) (cA := cA) hw
  refine va_aldq hx hb hK hP q0 3 hq rfl (vp_in_nI hj hn) hd ?_
  rw [nI_clamp (Nat.lt_trans hj hn), hf]
  exact K
theorem r_aret {M : MI} {k mc ms : Nat} {w0 : WD} {pc : Nat} {ls : List (Option Value)} {w w' : WD} {r : Option Value} {q : Nat} {C : String} (hd : decode M.2.1 pc = .ok (.areturn, 1)) (hr : M.2.2.2 = some (.object C)) (hv : r = some (.ref q)) (hw : w = w') : Rn M k mc ms w0 r w' mc ms pc ls [.ref q] w := by
  subst hv; subst hw
  intro p l e s m args below meth c D cA ad0 A hC hX ad H locs lsA hg hP hD hS hl
  have hlocks := hC.2.2.2.2.1
  exact W.aret hC.1 hC.2.1 (hC.2.2.2.1.trans hr) (Or.inl ⟨C, rfl⟩) (Or.inr ⟨_, rfl⟩) (fun t ht hW => ⟨ad, hg, rfl, by rw [ht]; exact hP, hD, hS.F ht⟩) hS.2.2 hd
/-- a text's method -/
theorem r_cT {stk : List Value} {w2 : WD} {idx k2 n i : Nat} {q : List Nat} {M2 : MI} {as : List Value} {v : Value} (hd : decode M.2.1 pc = .ok (.invokevirtual idx, 3)) (hq : zt_str[i]? = some q) (hM : Sem M2 k2 0 0 (.ref (2000 + i) :: as) w (some v) w2) (hL : MLT M.1.cls idx M2 n) (hstk : stk = as.reverse ++ .ref (2000 + i) :: st) (hn : as.length = n) (hk : k2 + 1 ≤ k ∧ M2.2.2.1 ≤ 19) (hnc : nc ≤ mc ∧ ns ≤ ms) (hst : (st.map fun v => v.category).sum ≤ 8) (K : Rq Z X M k mc ms w0 nc ns (pc + 3) ls (v :: st) w2) : Rq Z X M k mc ms w0 nc ns pc ls stk w := by
  subst hstk
  intro p l e s m args below meth c D cA ad0 A hC hX ad H locs lsA hg hP hD hS hl
  obtain ⟨hF, hPc⟩ := Fb_of (.ref (2000 + i) :: as) hC hg hP hD hS
  obtain ⟨⟨hlk, hini, hcode, hdd⟩, hcl, hinst, hsel⟩ := hL
  obtain ⟨hx, hb, hml, hrt, hlocks, hnm, hown, hts, hK, hA, hSt⟩ := id hC
  have hG : GoodIn lw_gd (Cond.code M2.1 M2.2.1 M2.2.2.1 M2.2.2.2 :: lw_gd) := gd_goodIn _ (fun _ h => h) hcode
  have hRm : (rmk k2 0 0).frames + 1 ≤ (rmk k mc ms).frames ∧ 8 + (M2.2.2.1 + 11) + (rmk k2 0 0).locals ≤ (rmk k mc ms).locals := by
    unfold rmk
    dsimp only
    omega
  have hrecv : ∃ cellB : Cell, H[ad (2000 + i)]? = some cellB ∧ cellB.vm.isStatics = false ∧ s.vm.findClass M2.1.cls = some cellB.cls := by
    have hO := (hSt.2.1 i q hq).1
    rw [← hg.2 _ (Or.inr (show 1000 ≤ 2000 + i by omega))] at hO
    obtain ⟨cell, h1, h2, h3, -⟩ := hO.kept hS.2.1
    exact ⟨cell, h1, h2, by rw [hcl]; exact h3⟩
  have hst2 : (as.reverse ++ .ref (2000 + i) :: st).map (cv ad) = (as.map (cv ad)).reverse ++ .ref (ad (2000 + i)) :: st.map (cv ad) := by simp [cv]
  have hsum : ((st.map (cv ad)).map fun v => v.category).sum ≤ 8 := by rw [cv_sum]; exact hst
  rw [hst2]
  have hM' := hM l D cA ad H.size
  refine back0 hC hX hg hS hl hF (r := some v) (w2 := w2) (a := (Value.ref (ad (2000 + i)) :: as.map (cv ad)).toArray) ?_ K
  rcases hlk with hlk | ⟨host, hlk⟩
  · exact va_runV (As := as.map (cv ad)) ⟨hx, hb, hml, hown, hts⟩ hM' ⟨callB_of n hts hG rfl rfl rfl (hts _ hini) (hts _ hlk) hdd hRm, hts _ hinst, hts _ hsel⟩ ⟨Fb_blind, hrecv, hPc⟩ rfl (by simpa using hn) hl.1 rfl (lv_room hsum) hd ⟨hnc.1, hnc.2⟩
  · exact va_runVN (As := as.map (cv ad)) ⟨hx, hb, hml, hown, hts⟩ hM' ⟨va_cnB n hts hG rfl rfl rfl (hSt.2.2.1.2.1 _ hlk) (hts _ hini) hdd hRm, hts _ hinst, hts _ hsel⟩ ⟨Fb_blind, hrecv, hPc⟩ rfl (by simpa using hn) hl.1 rfl (lv_room hsum) hd ⟨hnc.1, hnc.2⟩
end RS
/-! ===== texts ===== -/
theorem zt_small0 : zt_str.all (fun q => decide (q.length < 8) && q.all (fun b => decide (b < 256))) = true := by decide +kernel
theorem zt_small {i : Nat} {q : List Nat} (h : zt_str[i]? = some q) : q.length < 8 ∧ ∀ j, q.getD j 0 < 256 := by
  have h1 := List.all_eq_true.mp zt_small0 q (List.mem_of_getElem? h)
  rw [Bool.and_eq_true] at h1
  refine ⟨by simpa using h1.1, fun j => ?_⟩
  by_cases hj : j < q.length
  · have h2 := List.all_eq_true.mp h1.2 q[j] (List.getElem_mem hj)
    simp only [decide_eq_true_eq] at h2
    rw [List.getD_eq_getElem?_getD, List.getElem?_eq_getElem hj]
    exact h2
  · rw [List.getD_eq_getElem?_getD, List.getElem?_eq_none (by omega)]
    decide
theorem s_coder (w : WD) {i : Nat} {q : List Nat} (hq : zt_str[i]? = some q) : Sem mJ0_coder_7d493 1 0 0 [.ref (2000 + i)] w (some (.int 0)) w := by
  refine sem_of (by decide) (Nat.le_of_ble_eq_true rfl) rfl ?_
  refine r_cmpS dJ0_coder_7d493_0 fJ0_38 ?_
  refine r_if_eq 13 dJ0_coder_7d493_3 (by decide) (fun h3 => ?_) (fun h3 => ?_)
  · exact absurd h3 (by decide)
  · refine r_pc 6 rfl ?_
    refine r_aload_n dJ0_coder_7d493_6 rfl ?_
    refine r_scod dJ0_coder_7d493_7 fJ0_15 hq ?_
    refine r_goto 14 dJ0_coder_7d493_10 (by decide) ?_
    exact r_zret dJ0_coder_7d493_14 rfl rfl rfl rfl
theorem s_isLatin1 (w : WD) {i : Nat} {q : List Nat} (hq : zt_str[i]? = some q) : Sem mJ0_isLatin1_aae02 1 0 0 [.ref (2000 + i)] w (some (.int (nI 1))) w := by
  refine sem_of (by decide) (Nat.le_of_ble_eq_true rfl) rfl ?_
  refine r_cmpS dJ0_isLatin1_aae02_0 fJ0_38 ?_
  refine r_if_eq 17 dJ0_isLatin1_aae02_3 (by decide) (fun h3 => ?_) (fun h3 => ?_)
  · exact absurd h3 (by decide)
  · refine r_pc 6 rfl ?_
    refine r_aload_n dJ0_isLatin1_aae02_6 rfl ?_
    refine r_scod dJ0_isLatin1_aae02_7 fJ0_15 hq ?_
    refine r_if_ne 17 dJ0_isLatin1_aae02_10 (by decide) (fun h10 => ?_) (fun h10 => ?_)
    · exact absurd rfl h10
    · refine r_pc 13 rfl ?_
      refine r_iconst (v := (nI 1)) dJ0_isLatin1_aae02_13 (by decide) ?_
      refine r_goto 18 dJ0_isLatin1_aae02_14 (by decide) ?_
      exact r_zret dJ0_isLatin1_aae02_18 rfl rfl rfl rfl
theorem s_strlen (w : WD) {i : Nat} {q : List Nat} (hq : zt_str[i]? = some q) : Sem mJ0_length_8abf5 2 0 0 [.ref (2000 + i)] w (some (.int (nI q.length))) w := by
  refine sem_of (by decide) (Nat.le_of_ble_eq_true rfl) rfl ?_
  have hz : nI q.length >>> ((0 : Int32) &&& 31) = nI q.length := by
    have := pk_shrN (n := q.length) (by have := (zt_small hq).1; omega) ((0 : Int32) &&& 31) 0 (by decide)
    rw [this, Nat.pow_zero, Nat.div_one]
  refine r_aload_n dJ0_length_8abf5_0 rfl ?_
  refine r_sval dJ0_length_8abf5_1 fJ0_9 hq ?_
  refine r_slen dJ0_length_8abf5_4 hq ?_
  refine r_aload_n dJ0_length_8abf5_5 rfl ?_
  refine r_cT dJ0_length_8abf5_6 hq (s_coder _ hq) lJ0_335 rfl rfl (by decide) ⟨Nat.le_refl _, Nat.le_refl _⟩ (Nat.le_of_ble_eq_true rfl) ?_
  refine r_pc 9 rfl ?_
  refine r_ishr dJ0_length_8abf5_9 ?_
  refine r_topi _ hz ?_
  exact r_iret dJ0_length_8abf5_10 rfl rfl rfl
theorem s_pcheck (w : WD) {i n : Nat} {v : Value} (hv : v = .null ∨ v = .ref 4000) (hi : i < n) (hn : n < 2 ^ 31) : Sem mJ3_checkIndex_8e157 1 0 0 [.int (nI i), .int (nI n), v] w (some (.int (nI i))) w := by
  rcases hv with rfl | rfl
  · refine sem_of (by decide) (Nat.le_of_ble_eq_true rfl) rfl ?_
    refine r_iload_n dJ3_checkIndex_8e157_0 rfl ?_
    refine r_if_lt 9 dJ3_checkIndex_8e157_1 (by decide) (fun h1 => ?_) (fun h1 => ?_)
    · exact absurd h1 (nI_pos (by omega))
    · refine r_pc 4 rfl ?_
      refine r_iload_n dJ3_checkIndex_8e157_4 rfl ?_
      refine r_iload_n dJ3_checkIndex_8e157_5 rfl ?_
      refine r_icmp_ltN 16 dJ3_checkIndex_8e157_6 (by decide) (by omega) (by omega) (fun h6 => ?_) (fun h6 => ?_)
      · refine r_pc 16 rfl ?_
        refine r_iload_n dJ3_checkIndex_8e157_16 rfl ?_
        exact r_iret dJ3_checkIndex_8e157_17 rfl rfl rfl
      · exact absurd h6 (by omega)
  · refine sem_of (by decide) (Nat.le_of_ble_eq_true rfl) rfl ?_
    refine r_iload_n dJ3_checkIndex_8e157_0 rfl ?_
    refine r_if_lt 9 dJ3_checkIndex_8e157_1 (by decide) (fun h1 => ?_) (fun h1 => ?_)
    · exact absurd h1 (nI_pos (by omega))
    · refine r_pc 4 rfl ?_
      refine r_iload_n dJ3_checkIndex_8e157_4 rfl ?_
      refine r_iload_n dJ3_checkIndex_8e157_5 rfl ?_
      refine r_icmp_ltN 16 dJ3_checkIndex_8e157_6 (by decide) (by omega) (by omega) (fun h6 => ?_) (fun h6 => ?_)
      · refine r_pc 16 rfl ?_
        refine r_iload_n dJ3_checkIndex_8e157_16 rfl ?_
        exact r_iret dJ3_checkIndex_8e157_17 rfl rfl rfl
      · exact absurd h6 (by omega)
theorem s_scheck (w : WD) {i n : Nat} (hi : i < n) (hn : n < 2 ^ 31) : Sem mJ0_checkIndex_df160 2 0 0 [.int (nI i), .int (nI n)] w none w := by
  refine sem_of (by decide) (Nat.le_of_ble_eq_true rfl) rfl ?_
  refine r_iload_n dJ0_checkIndex_df160_0 rfl ?_
  refine r_iload_n dJ0_checkIndex_df160_1 rfl ?_
  refine r_pc 2 rfl ?_
  refine r_sioo dJ0_checkIndex_df160_2 fJ0_1053 ?_ ?_
  · refine r_cS dJ0_checkIndex_df160_5 (s_pcheck _ (Or.inl rfl) hi hn) lJ0_1059 rfl rfl (by decide) ⟨Nat.le_refl _, Nat.le_refl _⟩ (Nat.le_of_ble_eq_true rfl) ?_
    refine r_pop dJ0_checkIndex_df160_8 rfl ?_
    exact r_vret dJ0_checkIndex_df160_9 rfl rfl rfl
  · refine r_cS dJ0_checkIndex_df160_5 (s_pcheck _ (Or.inr rfl) hi hn) lJ0_1059 rfl rfl (by decide) ⟨Nat.le_refl _, Nat.le_refl _⟩ (Nat.le_of_ble_eq_true rfl) ?_
    refine r_pop dJ0_checkIndex_df160_8 rfl ?_
    exact r_vret dJ0_checkIndex_df160_9 rfl rfl rfl
theorem byte_of {b : Nat} (hb : b < 256) : nI b &&& nI 255 = nI b := by
  have : nI b &&& nI 255 = nI (b % 2 ^ 8) := pk_andN (by omega) 8 (by decide)
  rw [this, Nat.mod_eq_of_lt hb]
theorem char_of {b : Nat} (hb : b < 256) : ((nI b).toUInt32 % 65536).toInt32 = nI b := by
  rw [pk_char, pk_tn (by omega), Nat.mod_eq_of_lt (by omega)]
theorem s_lcharAt (w : WD) {i j : Nat} {q : List Nat} (hq : zt_str[i]? = some q) (hj : j < q.length) : Sem mJ1_charAt_3b067 3 0 0 [.ref (3000 + i), .int (nI j)] w (some (.int (nI (q.getD j 0)))) w := by
  refine sem_of (by decide) (Nat.le_of_ble_eq_true rfl) rfl ?_
  obtain ⟨h1, h2⟩ := zt_small hq
  have h3 := h2 j
  have h4 := (pk_charN (q := q.getD j 0) (by omega)).1
  refine r_iload_n dJ1_charAt_3b067_0 rfl ?_
  refine r_aload_n dJ1_charAt_3b067_1 rfl ?_
  refine r_slen dJ1_charAt_3b067_2 hq ?_
  refine r_pc 3 rfl ?_
  refine r_callS dJ1_charAt_3b067_3 (s_scheck _ hj (by omega)) lJ1_9 rfl (by decide) ⟨Nat.le_refl _, Nat.le_refl _⟩ (Nat.le_of_ble_eq_true rfl) ?_
  refine r_aload_n dJ1_charAt_3b067_6 rfl ?_
  refine r_iload_n dJ1_charAt_3b067_7 rfl ?_
  refine r_sbld dJ1_charAt_3b067_8 hq hj (by omega) ?_
  refine r_sipush (v := (nI 255)) dJ1_charAt_3b067_9 (by decide) ?_
  refine r_iand dJ1_charAt_3b067_12 (r_topi _ (byte_of h3) ?_)
  refine r_pc 13 rfl ?_
  refine r_i2c dJ1_charAt_3b067_13 (char_of h3) ?_
  exact r_zret dJ1_charAt_3b067_14 rfl h4 rfl rfl
theorem s_charAt (w : WD) {i j : Nat} {q : List Nat} (hq : zt_str[i]? = some q) (hj : j < q.length) : Sem mJ0_charAt_5068e 4 0 0 [.ref (2000 + i), .int (nI j)] w (some (.int (nI (q.getD j 0)))) w := by
  refine sem_of (by decide) (Nat.le_of_ble_eq_true rfl) rfl ?_
  have h4 := (pk_charN (q := q.getD j 0) (by have := (zt_small hq).2 j; omega)).1
  refine r_aload_n dJ0_charAt_5068e_0 rfl ?_
  refine r_cT dJ0_charAt_5068e_1 hq (s_isLatin1 _ hq) lJ0_492 rfl rfl (by decide) ⟨Nat.le_refl _, Nat.le_refl _⟩ (Nat.le_of_ble_eq_true rfl) ?_
  refine r_if_eq 16 dJ0_charAt_5068e_4 (by decide) (fun h4 => ?_) (fun h4 => ?_)
  · exact absurd h4 (by decide)
  · refine r_pc 7 rfl ?_
    refine r_aload_n dJ0_charAt_5068e_7 rfl ?_
    refine r_sval dJ0_charAt_5068e_8 fJ0_9 hq ?_
    refine r_iload_n dJ0_charAt_5068e_11 rfl ?_
    refine r_cS dJ0_charAt_5068e_12 (s_lcharAt _ hq hj) lJ0_495 rfl rfl (by decide) ⟨Nat.le_refl _, Nat.le_refl _⟩ (Nat.le_of_ble_eq_true rfl) ?_
    exact r_zret dJ0_charAt_5068e_15 rfl ‹narrow .char _ = _› rfl rfl
theorem lk_max : Cond.methodLink RX9 242 Lib.Math.max.name ∈ lw_gd ∧ Cond.static Lib.Math.max.name ∈ lw_gd ∧ Cond.initialized "java/lang/Math" ∈ lw_gd ∧ Cond.code Lib.Math.max.name Lib.Math.max.code 2 (some .int) ∈ lw_gd := ⟨gd_mem (List.mem_of_getElem? (i := 916) (by decide +kernel)) rfl, gd_mem (List.mem_of_getElem? (i := 917) (by decide +kernel)) rfl, gd_mem (List.mem_of_getElem? (i := 73) (by decide +kernel)) rfl, gd_mem (List.mem_of_getElem? (i := 918) (by decide +kernel)) rfl⟩
theorem lk_min : Cond.methodLink RX3 37 Lib.MathLoose.min_long.x ∈ lw_gd ∧ Cond.static Lib.MathLoose.min_long.x ∈ lw_gd ∧ Cond.initialized "java/lang/Math" ∈ lw_gd ∧ Cond.code Lib.MathLoose.min_long.x Lib.MathLoose.min_long.code 4 (some .long) ∈ lw_gd := ⟨gd_mem (List.mem_of_getElem? (i := 664) (by decide +kernel)) rfl, gd_mem (List.mem_of_getElem? (i := 665) (by decide +kernel)) rfl, gd_mem (List.mem_of_getElem? (i := 73) (by decide +kernel)) rfl, gd_mem (List.mem_of_getElem? (i := 666) (by decide +kernel)) rfl⟩
theorem r_mmax {Z : ZT} {X : XT} {M : MI} {k mc ms : Nat} {w0 : WD} {nc ns pc : Nat} {ls : List (Option Value)} {st : List Value} {w : WD} {idx : Nat} {x y : Int32} (hd : decode M.2.1 pc = .ok (.invokestatic idx, 3)) (hL : Cond.methodLink M.1.cls idx Lib.Math.max.name ∈ lw_gd ∧ Cond.static Lib.Math.max.name ∈ lw_gd ∧ Cond.initialized "java/lang/Math" ∈ lw_gd ∧ Cond.code Lib.Math.max.name Lib.Math.max.code 2 (some .int) ∈ lw_gd) (hk : 1 ≤ k) (hst : (st.map fun v => v.category).sum ≤ 8) (hnc : nc ≤ mc ∧ ns ≤ ms) (K : Rq Z X M k mc ms w0 nc ns (pc + 3) ls (.int (if x < y then y else x) :: st) w) : Rq Z X M k mc ms w0 nc ns pc ls (.int y :: .int x :: st) w := by
  intro p l e s m args below meth c D cA ad0 A hC hX ad H locs lsA hg hP hD hS hl
  have K := K p l e s m args below meth c D cA ad0 A hC hX ad H locs lsA hg hP hD hS hl
  obtain ⟨hx, hb, hml, hrt, hlk, hnm, hown, hts, hK, hA, hSt⟩ := hC
  exact va_mmax hx hb (hml.trans hl.1.symm) hown (hts _ hL.1) (hts _ hL.2.1) (hts _ hL.2.2.1) (hts _ hL.2.2.2) hk (by rw [cv_sum]; show _ ≤ 38 * k; omega) hnc.1 hnc.2 hd K
theorem r_mminl {Z : ZT} {X : XT} {M : MI} {k mc ms : Nat} {w0 : WD} {nc ns pc : Nat} {ls : List (Option Value)} {st : List Value} {w : WD} {idx : Nat} {x y : Int64} (hd : decode M.2.1 pc = .ok (.invokestatic idx, 3)) (hL : Cond.methodLink M.1.cls idx Lib.MathLoose.min_long.x ∈ lw_gd ∧ Cond.static Lib.MathLoose.min_long.x ∈ lw_gd ∧ Cond.initialized "java/lang/Math" ∈ lw_gd ∧ Cond.code Lib.MathLoose.min_long.x Lib.MathLoose.min_long.code 4 (some .long) ∈ lw_gd) (hk : 1 ≤ k) (hst : (st.map fun v => v.category).sum ≤ 8) (hnc : nc ≤ mc ∧ ns ≤ ms) (K : Rq Z X M k mc ms w0 nc ns (pc + 3) ls (.long (if y < x then y else x) :: st) w) : Rq Z X M k mc ms w0 nc ns pc ls (.long y :: .long x :: st) w := by
  intro p l e s m args below meth c D cA ad0 A hC hX ad H locs lsA hg hP hD hS hl
  have K := K p l e s m args below meth c D cA ad0 A hC hX ad H locs lsA hg hP hD hS hl
  obtain ⟨hx, hb, hml, hrt, hlk, hnm, hown, hts, hK, hA, hSt⟩ := hC
  exact va_mmin_long hx hb (hml.trans hl.1.symm) hown (hts _ hL.1) (hts _ hL.2.1) (hts _ hL.2.2.1) (hts _ hL.2.2.2) hk (by rw [cv_sum]; show _ ≤ 38 * k; omega) hnc.1 hnc.2 hd K
theorem s_ofWho (w : WD) {n : Nat} (hn : n < 9) : Sem mX7_ofWho 1 0 0 [.int (nI n)] w (some (.ref (2000 + n))) w := by
  refine sem_of (by decide) (Nat.le_of_ble_eq_true rfl) rfl ?_
  match n, hn with
  | 0, _ =>
    refine r_iload_n dX7_ofWho_0 rfl ?_
    refine r_pc 1 rfl ?_
    refine r_tabIn 52 dX7_ofWho_1 (by decide) (by decide) rfl (by decide) ?_
    refine r_ldcS (i := 0) dX7_ofWho_52 (by decide) ?_
    exact r_aret dX7_ofWho_54 rfl rfl rfl
  | 1, _ =>
    refine r_iload_n dX7_ofWho_0 rfl ?_
    refine r_pc 1 rfl ?_
    refine r_tabIn 55 dX7_ofWho_1 (by decide) (by decide) rfl (by decide) ?_
    refine r_ldcS (i := 1) dX7_ofWho_55 (by decide) ?_
    exact r_aret dX7_ofWho_57 rfl rfl rfl
  | 2, _ =>
    refine r_iload_n dX7_ofWho_0 rfl ?_
    refine r_pc 1 rfl ?_
    refine r_tabIn 58 dX7_ofWho_1 (by decide) (by decide) rfl (by decide) ?_
    refine r_ldcS (i := 2) dX7_ofWho_58 (by decide) ?_
    exact r_aret dX7_ofWho_60 rfl rfl rfl
  | 3, _ =>
    refine r_iload_n dX7_ofWho_0 rfl ?_
    refine r_pc 1 rfl ?_
    refine r_tabIn 61 dX7_ofWho_1 (by decide) (by decide) rfl (by decide) ?_
    refine r_ldcS (i := 3) dX7_ofWho_61 (by decide) ?_
    exact r_aret dX7_ofWho_63 rfl rfl rfl
  | 4, _ =>
    refine r_iload_n dX7_ofWho_0 rfl ?_
    refine r_pc 1 rfl ?_
    refine r_tabIn 64 dX7_ofWho_1 (by decide) (by decide) rfl (by decide) ?_
    refine r_ldcS (i := 4) dX7_ofWho_64 (by decide) ?_
    exact r_aret dX7_ofWho_66 rfl rfl rfl
  | 5, _ =>
    refine r_iload_n dX7_ofWho_0 rfl ?_
    refine r_pc 1 rfl ?_
    refine r_tabIn 67 dX7_ofWho_1 (by decide) (by decide) rfl (by decide) ?_
    refine r_ldcS (i := 5) dX7_ofWho_67 (by decide) ?_
    exact r_aret dX7_ofWho_69 rfl rfl rfl
  | 6, _ =>
    refine r_iload_n dX7_ofWho_0 rfl ?_
    refine r_pc 1 rfl ?_
    refine r_tabIn 70 dX7_ofWho_1 (by decide) (by decide) rfl (by decide) ?_
    refine r_ldcS (i := 6) dX7_ofWho_70 (by decide) ?_
    exact r_aret dX7_ofWho_72 rfl rfl rfl
  | 7, _ =>
    refine r_iload_n dX7_ofWho_0 rfl ?_
    refine r_pc 1 rfl ?_
    refine r_tabIn 73 dX7_ofWho_1 (by decide) (by decide) rfl (by decide) ?_
    refine r_ldcS (i := 7) dX7_ofWho_73 (by decide) ?_
    exact r_aret dX7_ofWho_75 rfl rfl rfl
  | 8, _ =>
    refine r_iload_n dX7_ofWho_0 rfl ?_
    refine r_pc 1 rfl ?_
    refine r_tabIn 76 dX7_ofWho_1 (by decide) (by decide) rfl (by decide) ?_
    refine r_ldcS (i := 8) dX7_ofWho_76 (by decide) ?_
    exact r_aret dX7_ofWho_78 rfl rfl rfl
theorem s_ofFigure (w : WD) {n : Nat} (hn : n < 12) : Sem mX7_ofFigure 1 0 0 [.int (nI n)] w (some (.ref (2009 + n))) w := by
  refine sem_of (by decide) (Nat.le_of_ble_eq_true rfl) rfl ?_
  match n, hn with
  | 0, _ =>
    refine r_iload_n dX7_ofFigure_0 rfl ?_
    refine r_pc 1 rfl ?_
    refine r_tabIn 64 dX7_ofFigure_1 (by decide) (by decide) rfl (by decide) ?_
    refine r_ldcS (i := 9) dX7_ofFigure_64 (by decide) ?_
    exact r_aret dX7_ofFigure_66 rfl rfl rfl
  | 1, _ =>
    refine r_iload_n dX7_ofFigure_0 rfl ?_
    refine r_pc 1 rfl ?_
    refine r_tabIn 67 dX7_ofFigure_1 (by decide) (by decide) rfl (by decide) ?_
    refine r_ldcS (i := 10) dX7_ofFigure_67 (by decide) ?_
    exact r_aret dX7_ofFigure_69 rfl rfl rfl
  | 2, _ =>
    refine r_iload_n dX7_ofFigure_0 rfl ?_
    refine r_pc 1 rfl ?_
    refine r_tabIn 70 dX7_ofFigure_1 (by decide) (by decide) rfl (by decide) ?_
    refine r_ldcS (i := 11) dX7_ofFigure_70 (by decide) ?_
    exact r_aret dX7_ofFigure_72 rfl rfl rfl
  | 3, _ =>
    refine r_iload_n dX7_ofFigure_0 rfl ?_
    refine r_pc 1 rfl ?_
    refine r_tabIn 73 dX7_ofFigure_1 (by decide) (by decide) rfl (by decide) ?_
    refine r_ldcS (i := 12) dX7_ofFigure_73 (by decide) ?_
    exact r_aret dX7_ofFigure_75 rfl rfl rfl
  | 4, _ =>
    refine r_iload_n dX7_ofFigure_0 rfl ?_
    refine r_pc 1 rfl ?_
    refine r_tabIn 76 dX7_ofFigure_1 (by decide) (by decide) rfl (by decide) ?_
    refine r_ldcS (i := 13) dX7_ofFigure_76 (by decide) ?_
    exact r_aret dX7_ofFigure_78 rfl rfl rfl
  | 5, _ =>
    refine r_iload_n dX7_ofFigure_0 rfl ?_
    refine r_pc 1 rfl ?_
    refine r_tabIn 79 dX7_ofFigure_1 (by decide) (by decide) rfl (by decide) ?_
    refine r_ldcS (i := 14) dX7_ofFigure_79 (by decide) ?_
    exact r_aret dX7_ofFigure_81 rfl rfl rfl
  | 6, _ =>
    refine r_iload_n dX7_ofFigure_0 rfl ?_
    refine r_pc 1 rfl ?_
    refine r_tabIn 82 dX7_ofFigure_1 (by decide) (by decide) rfl (by decide) ?_
    refine r_ldcS (i := 15) dX7_ofFigure_82 (by decide) ?_
    exact r_aret dX7_ofFigure_84 rfl rfl rfl
  | 7, _ =>
    refine r_iload_n dX7_ofFigure_0 rfl ?_
    refine r_pc 1 rfl ?_
    refine r_tabIn 85 dX7_ofFigure_1 (by decide) (by decide) rfl (by decide) ?_
    refine r_ldcS (i := 16) dX7_ofFigure_85 (by decide) ?_
    exact r_aret dX7_ofFigure_87 rfl rfl rfl
  | 8, _ =>
    refine r_iload_n dX7_ofFigure_0 rfl ?_
    refine r_pc 1 rfl ?_
    refine r_tabIn 88 dX7_ofFigure_1 (by decide) (by decide) rfl (by decide) ?_
    refine r_ldcS (i := 17) dX7_ofFigure_88 (by decide) ?_
    exact r_aret dX7_ofFigure_90 rfl rfl rfl
  | 9, _ =>
    refine r_iload_n dX7_ofFigure_0 rfl ?_
    refine r_pc 1 rfl ?_
    refine r_tabIn 91 dX7_ofFigure_1 (by decide) (by decide) rfl (by decide) ?_
    refine r_ldcS (i := 18) dX7_ofFigure_91 (by decide) ?_
    exact r_aret dX7_ofFigure_93 rfl rfl rfl
  | 10, _ =>
    refine r_iload_n dX7_ofFigure_0 rfl ?_
    refine r_pc 1 rfl ?_
    refine r_tabIn 94 dX7_ofFigure_1 (by decide) (by decide) rfl (by decide) ?_
    refine r_ldcS (i := 19) dX7_ofFigure_94 (by decide) ?_
    exact r_aret dX7_ofFigure_96 rfl rfl rfl
  | 11, _ =>
    refine r_iload_n dX7_ofFigure_0 rfl ?_
    refine r_pc 1 rfl ?_
    refine r_tabIn 97 dX7_ofFigure_1 (by decide) (by decide) rfl (by decide) ?_
    refine r_ldcS (i := 20) dX7_ofFigure_97 (by decide) ?_
    exact r_aret dX7_ofFigure_99 rfl rfl rfl
