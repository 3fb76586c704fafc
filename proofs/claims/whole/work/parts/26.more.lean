/-! ===== squares turned, squares counted ===== -/
def amg (q : Int64) (f : Nat → Int64) : Nat → Bool
  | 0 => false
  | n + 1 => amg q f n || decide (f n = q)
theorem amg_ge {q : Int64} {f : Nat → Int64} {i : Nat} (h : amg q f i = true) : ∀ m, amg q f (i + m) = true
  | 0 => h
  | m + 1 => by
    show (amg q f (i + m) || _) = true
    rw [amg_ge h m]
    rfl
theorem s_isAmong (w : WD) {p N n : Nat} {q : Int64} {f : Nat → Int64} (hw : wg w p = some (.inl (1, N, .inr (.inl f)))) (hn : n ≤ N) (hN : N < 2 ^ 31) : Sem mX3_isAmong 1 0 0 [.long q, .ref p, .int (nI n)] w (some (.int (bI (amg q f n)))) w := by
  refine sem_of (by decide) (Nat.le_of_ble_eq_true rfl) rfl ?_
  have L : ∀ (m i : Nat), i + m = n → amg q f i = false → Rn mX3_isAmong 1 0 0 w (some (.int (bI (amg q f n)))) w 0 0 3 [some (.long q), none, some (.ref p), some (.int (nI n)), some (.int (nI i))] [] w := by
    intro m
    induction m with
    | zero =>
      intro i hi h1
      have : i = n := by omega
      subst this
      rw [h1]
      refine r_iload dX3_isAmong_3 rfl ?_
      refine r_iload_n dX3_isAmong_5 rfl ?_
      refine r_icmp_geN 33 dX3_isAmong_6 (by decide) (by omega) (by omega) (fun h6 => ?_) (fun h6 => ?_)
      · refine r_pc 33 rfl ?_
        refine r_iconst (v := (nI 0)) dX3_isAmong_33 (by decide) ?_
        exact r_zret dX3_isAmong_34 rfl rfl rfl rfl
      · exact absurd h6 (by omega)
    | succ m ih =>
      intro i hi h1
      refine r_iload dX3_isAmong_3 rfl ?_
      refine r_iload_n dX3_isAmong_5 rfl ?_
      refine r_icmp_geN 33 dX3_isAmong_6 (by decide) (by omega) (by omega) (fun h6 => ?_) (fun h6 => ?_)
      · exact absurd h6 (by omega)
      · refine r_pc 9 rfl ?_
        refine r_iload dX3_isAmong_9 rfl ?_
        refine r_aload_n dX3_isAmong_11 rfl ?_
        refine r_alen (v := nI N) dX3_isAmong_12 hw (by decide) rfl ?_
        refine r_icmp_geN 33 dX3_isAmong_13 (by decide) (by omega) (by omega) (fun h13 => ?_) (fun h13 => ?_)
        · exact absurd h13 (by omega)
        · refine r_pc 16 rfl ?_
          refine r_aload_n dX3_isAmong_16 rfl ?_
          refine r_iload dX3_isAmong_17 rfl ?_
          refine r_lald dX3_isAmong_19 hw rfl (by omega) hN ?_
          refine r_lload_n dX3_isAmong_20 rfl ?_
          refine r_lcmp dX3_isAmong_21 ?_
          refine r_pc 22 rfl ?_
          refine r_if_ne 27 dX3_isAmong_22 (by decide) (fun h22 => ?_) (fun h22 => ?_)
          · have hc : amg q f (i + 1) = false := by (show (amg q f i || _) = false; rw [h1, decide_eq_false (fun z => h22 ((lg_cmp_eq _ _).mpr z))]; rfl)
            refine r_pc 27 rfl ?_
            refine r_inc1 (ls' := [_, _, _, _, _]) dX3_isAmong_27 (by decide) rfl rfl ?_
            refine r_goto 3 dX3_isAmong_30 (by decide) ?_
            refine r_pc 3 rfl ?_
            exact ih (i + 1) (by omega) hc
          · have hc : amg q f (i + 1) = true := by (show (amg q f i || _) = true; rw [decide_eq_true ((lg_cmp_eq _ _).mp h22), Bool.or_true])
            have hc8 := amg_ge hc m
            rw [show i + 1 + m = n by omega] at hc8
            rw [hc8]
            refine r_pc 25 rfl ?_
            refine r_iconst (v := (nI 1)) dX3_isAmong_25 (by decide) ?_
            exact r_zret dX3_isAmong_26 rfl rfl rfl rfl
  refine r_iconst (v := (nI 0)) dX3_isAmong_0 (by decide) ?_
  refine r_istore (ls' := [_, _, _, _, _]) dX3_isAmong_1 (by decide) rfl ?_
  refine r_pc 3 rfl ?_
  exact L n 0 (by omega) rfl
def nm8 (r : Bool) (d : Nat) : Nat := match r with
  | true => (d + 2) % 8
  | false => d
def tuI (q : Int64) (r : Bool) : Nat → Int64
  | 0 => 0
  | n + 1 => tuI q r n ||| ((nI (4 * (sqc q n % 4) + (3 - sqc q n / 4)) + nI 16 * nI ((sqf q n + 3) % 4)).toInt64 <<< ((nI 6 * nI (nm8 r n)).toInt64 &&& 63))
theorem s_turned (w : WD) {q : Int64} {r : Bool} : Sem mX3_turned 2 0 0 [.long q, .int (bI r)] w (some (.long (tuI q r 8))) w := by
  refine sem_of (by decide) (Nat.le_of_ble_eq_true rfl) rfl ?_
  have L : ∀ (m i : Nat) (y6 y7 y8 y9 : Option Int32), i + m = 8 → Rn mX3_turned 2 0 0 w (some (.long (tuI q r 8))) w 0 0 5 [some (.long q), none, some (.int (bI r)), some (.long (tuI q r i)), none, some (.int (nI i)), y6.map .int, y7.map .int, y8.map .int, y9.map .int] [] w := by
    intro m
    induction m with
    | zero =>
      intro i y6 y7 y8 y9 hi
      have : i = 8 := by omega
      subst this
      refine r_iload dX3_turned_5 rfl ?_
      refine r_bipush (v := (nI 8)) dX3_turned_7 (by decide) ?_
      refine r_icmp_geN 83 dX3_turned_9 (by decide) (by omega) (by omega) (fun h9 => ?_) (fun h9 => ?_)
      · refine r_pc 83 rfl ?_
        refine r_lload_n dX3_turned_83 rfl ?_
        exact r_lret dX3_turned_84 rfl rfl rfl
      · exact absurd h9 (by omega)
    | succ m ih =>
      intro i y6 y7 y8 y9 hi
      have ih := ih (i + 1) (some (nI (sqc q i))) (some (nI (3 - sqc q i / 4))) (some (nI (sqc q i % 4))) (some (nI (nm8 r i))) (by omega)
      have hc := sqc_lt q i
      have hf := sqf_lt q i
      refine r_drop (ls' := [some (.long q), none, some (.int (bI r)), some (.long (tuI q r i)), none, some (.int (nI i)), none, none, none, none]) ⟨rfl, rfl, rfl, rfl, trivial⟩ ?_
      cases r with
      | true =>
        refine r_iload dX3_turned_5 rfl ?_
        refine r_bipush (v := (nI 8)) dX3_turned_7 (by decide) ?_
        refine r_icmp_geN 83 dX3_turned_9 (by decide) (by omega) (by omega) (fun h9 => ?_) (fun h9 => ?_)
        · exact absurd h9 (by omega)
        · refine r_pc 12 rfl ?_
          refine r_lload_n dX3_turned_12 rfl ?_
          refine r_iload dX3_turned_13 rfl ?_
          refine r_cS dX3_turned_15 (s_cellOf _ q (nI i)) lX3_26 rfl rfl (by decide) ⟨Nat.le_refl _, Nat.le_refl _⟩ (Nat.le_of_ble_eq_true rfl) ?_
          refine r_topi _ (sqc_eq q i) ?_
          refine r_istore (ls' := [_, _, _, _, _, _, _, _, _, _]) dX3_turned_18 (by decide) rfl ?_
          refine r_iconst (v := (nI 3)) dX3_turned_20 (by decide) ?_
          refine r_pc 21 rfl ?_
          refine r_iload dX3_turned_21 rfl ?_
          refine r_iconst (v := (nI 4)) dX3_turned_23 (by decide) ?_
          refine r_idivN dX3_turned_24 (by omega) (by decide) (by decide) ?_
          refine r_isubN dX3_turned_25 (by omega) ?_
          refine r_istore (ls' := [_, _, _, _, _, _, _, _, _, _]) dX3_turned_26 (by decide) rfl ?_
          refine r_pc 28 rfl ?_
          refine r_iload dX3_turned_28 rfl ?_
          refine r_iconst (v := (nI 4)) dX3_turned_30 (by decide) ?_
          refine r_iremN dX3_turned_31 (by omega) (by decide) (by decide) ?_
          refine r_istore (ls' := [_, _, _, _, _, _, _, _, _, _]) dX3_turned_32 (by decide) rfl ?_
          refine r_iload_n dX3_turned_34 rfl ?_
          refine r_pc 35 rfl ?_
          refine r_if_eq 48 dX3_turned_35 (by decide) (fun h35 => ?_) (fun h35 => ?_)
          · exact absurd h35 (by decide)
          · refine r_pc 38 rfl ?_
            refine r_iload dX3_turned_38 rfl ?_
            refine r_iconst (v := (nI 2)) dX3_turned_40 (by decide) ?_
            refine r_iaddN dX3_turned_41 ?_
            refine r_bipush (v := (nI 8)) dX3_turned_42 (by decide) ?_
            refine r_iremN dX3_turned_44 (by omega) (by decide) (by decide) ?_
            refine r_pc 45 rfl ?_
            refine r_goto 50 dX3_turned_45 (by decide) ?_
            refine r_istore (ls' := [_, _, _, _, _, _, _, _, _, _]) dX3_turned_50 (by decide) rfl ?_
            refine r_lload_n dX3_turned_52 rfl ?_
            refine r_iload dX3_turned_53 rfl ?_
            refine r_iconst (v := (nI 4)) dX3_turned_55 (by decide) ?_
            refine r_pc 56 rfl ?_
            refine r_iload dX3_turned_56 rfl ?_
            refine r_imulN dX3_turned_58 ?_
            refine r_iload dX3_turned_59 rfl ?_
            refine r_iaddN dX3_turned_61 ?_
            refine r_lload_n dX3_turned_62 rfl ?_
            refine r_pc 63 rfl ?_
            refine r_iload dX3_turned_63 rfl ?_
            refine r_cS dX3_turned_65 (s_facingOf _ q (nI i)) lX3_30 rfl rfl (by decide) ⟨Nat.le_refl _, Nat.le_refl _⟩ (Nat.le_of_ble_eq_true rfl) ?_
            refine r_topi _ (sqf_eq q i) ?_
            refine r_iconst (v := (nI 3)) dX3_turned_68 (by decide) ?_
            refine r_iaddN dX3_turned_69 ?_
            refine r_iconst (v := (nI 4)) dX3_turned_70 (by decide) ?_
            refine r_pc 71 rfl ?_
            refine r_iremN dX3_turned_71 (by omega) (by decide) (by decide) ?_
            refine r_cS dX3_turned_72 (s_bits _ _ _ _) lX3_11 rfl rfl (by decide) ⟨Nat.le_refl _, Nat.le_refl _⟩ (Nat.le_of_ble_eq_true rfl) ?_
            refine r_lor dX3_turned_75 ?_
            refine r_lstore_n (ls' := [_, _, _, _, _, _, _, _, _, _]) dX3_turned_76 (by decide) rfl ?_
            refine r_inc1 (ls' := [_, _, _, _, _, _, _, _, _, _]) dX3_turned_77 (by decide) rfl rfl ?_
            refine r_pc 80 rfl ?_
            refine r_goto 5 dX3_turned_80 (by decide) ?_
            refine r_pc 5 rfl ?_
            exact ih
      | false =>
        refine r_iload dX3_turned_5 rfl ?_
        refine r_bipush (v := (nI 8)) dX3_turned_7 (by decide) ?_
        refine r_icmp_geN 83 dX3_turned_9 (by decide) (by omega) (by omega) (fun h9 => ?_) (fun h9 => ?_)
        · exact absurd h9 (by omega)
        · refine r_pc 12 rfl ?_
          refine r_lload_n dX3_turned_12 rfl ?_
          refine r_iload dX3_turned_13 rfl ?_
          refine r_cS dX3_turned_15 (s_cellOf _ q (nI i)) lX3_26 rfl rfl (by decide) ⟨Nat.le_refl _, Nat.le_refl _⟩ (Nat.le_of_ble_eq_true rfl) ?_
          refine r_topi _ (sqc_eq q i) ?_
          refine r_istore (ls' := [_, _, _, _, _, _, _, _, _, _]) dX3_turned_18 (by decide) rfl ?_
          refine r_iconst (v := (nI 3)) dX3_turned_20 (by decide) ?_
          refine r_pc 21 rfl ?_
          refine r_iload dX3_turned_21 rfl ?_
          refine r_iconst (v := (nI 4)) dX3_turned_23 (by decide) ?_
          refine r_idivN dX3_turned_24 (by omega) (by decide) (by decide) ?_
          refine r_isubN dX3_turned_25 (by omega) ?_
          refine r_istore (ls' := [_, _, _, _, _, _, _, _, _, _]) dX3_turned_26 (by decide) rfl ?_
          refine r_pc 28 rfl ?_
          refine r_iload dX3_turned_28 rfl ?_
          refine r_iconst (v := (nI 4)) dX3_turned_30 (by decide) ?_
          refine r_iremN dX3_turned_31 (by omega) (by decide) (by decide) ?_
          refine r_istore (ls' := [_, _, _, _, _, _, _, _, _, _]) dX3_turned_32 (by decide) rfl ?_
          refine r_iload_n dX3_turned_34 rfl ?_
          refine r_pc 35 rfl ?_
          refine r_if_eq 48 dX3_turned_35 (by decide) (fun h35 => ?_) (fun h35 => ?_)
          · refine r_pc 48 rfl ?_
            refine r_iload dX3_turned_48 rfl ?_
            refine r_istore (ls' := [_, _, _, _, _, _, _, _, _, _]) dX3_turned_50 (by decide) rfl ?_
            refine r_lload_n dX3_turned_52 rfl ?_
            refine r_iload dX3_turned_53 rfl ?_
            refine r_iconst (v := (nI 4)) dX3_turned_55 (by decide) ?_
            refine r_pc 56 rfl ?_
            refine r_iload dX3_turned_56 rfl ?_
            refine r_imulN dX3_turned_58 ?_
            refine r_iload dX3_turned_59 rfl ?_
            refine r_iaddN dX3_turned_61 ?_
            refine r_lload_n dX3_turned_62 rfl ?_
            refine r_pc 63 rfl ?_
            refine r_iload dX3_turned_63 rfl ?_
            refine r_cS dX3_turned_65 (s_facingOf _ q (nI i)) lX3_30 rfl rfl (by decide) ⟨Nat.le_refl _, Nat.le_refl _⟩ (Nat.le_of_ble_eq_true rfl) ?_
            refine r_topi _ (sqf_eq q i) ?_
            refine r_iconst (v := (nI 3)) dX3_turned_68 (by decide) ?_
            refine r_iaddN dX3_turned_69 ?_
            refine r_iconst (v := (nI 4)) dX3_turned_70 (by decide) ?_
            refine r_pc 71 rfl ?_
            refine r_iremN dX3_turned_71 (by omega) (by decide) (by decide) ?_
            refine r_cS dX3_turned_72 (s_bits _ _ _ _) lX3_11 rfl rfl (by decide) ⟨Nat.le_refl _, Nat.le_refl _⟩ (Nat.le_of_ble_eq_true rfl) ?_
            refine r_lor dX3_turned_75 ?_
            refine r_lstore_n (ls' := [_, _, _, _, _, _, _, _, _, _]) dX3_turned_76 (by decide) rfl ?_
            refine r_inc1 (ls' := [_, _, _, _, _, _, _, _, _, _]) dX3_turned_77 (by decide) rfl rfl ?_
            refine r_pc 80 rfl ?_
            refine r_goto 5 dX3_turned_80 (by decide) ?_
            refine r_pc 5 rfl ?_
            exact ih
          · exact absurd rfl h35
  refine r_lconst (v := 0) dX3_turned_0 (by decide) ?_
  refine r_lstore_n (ls' := [_, _, _, _, _, _, _, _, _, _]) dX3_turned_1 (by decide) rfl ?_
  refine r_iconst (v := (nI 0)) dX3_turned_2 (by decide) ?_
  refine r_istore (ls' := [_, _, _, _, _, _, _, _, _, _]) dX3_turned_3 (by decide) rfl ?_
  refine r_pc 5 rfl ?_
  exact L 8 0 none none none none (by omega)
def lsI (q : Int64) (r : Bool) : Nat → Int64 × Int64
  | 0 => (q, q)
  | n + 1 => (tuI (lsI q r n).1 r 8, if tuI (lsI q r n).1 r 8 < (lsI q r n).2 then tuI (lsI q r n).1 r 8 else (lsI q r n).2)
theorem s_least (w : WD) {q : Int64} {r : Bool} : Sem mX3_least 3 0 0 [.long q, .int (bI r)] w (some (.long (lsI q r 3).2)) w := by
  refine sem_of (by decide) (Nat.le_of_ble_eq_true rfl) rfl ?_
  have L : ∀ (m i : Nat), i + m = 3 → Rn mX3_least 3 0 0 w (some (.long (lsI q r 3).2)) w 0 0 8 [some (.long q), none, some (.int (bI r)), some (.long (lsI q r i).2), none, some (.long (lsI q r i).1), none, some (.int (nI (i + 1)))] [] w := by
    intro m
    induction m with
    | zero =>
      intro i hi
      have : i = 3 := by omega
      subst this
      refine r_iload dX3_least_8 rfl ?_
      refine r_iconst (v := (nI 4)) dX3_least_10 (by decide) ?_
      refine r_icmp_geN 35 dX3_least_11 (by decide) (by omega) (by omega) (fun h11 => ?_) (fun h11 => ?_)
      · refine r_pc 35 rfl ?_
        refine r_lload_n dX3_least_35 rfl ?_
        exact r_lret dX3_least_36 rfl rfl rfl
      · exact absurd h11 (by omega)
    | succ m ih =>
      intro i hi
      have ih := ih (i + 1) (by omega)
      refine r_iload dX3_least_8 rfl ?_
      refine r_iconst (v := (nI 4)) dX3_least_10 (by decide) ?_
      refine r_icmp_geN 35 dX3_least_11 (by decide) (by omega) (by omega) (fun h11 => ?_) (fun h11 => ?_)
      · exact absurd h11 (by omega)
      · refine r_pc 14 rfl ?_
        refine r_lload dX3_least_14 rfl ?_
        refine r_iload_n dX3_least_16 rfl ?_
        refine r_cS dX3_least_17 (s_turned _) lX3_33 rfl rfl (by decide) ⟨Nat.le_refl _, Nat.le_refl _⟩ (Nat.le_of_ble_eq_true rfl) ?_
        refine r_lstore (ls' := [_, _, _, _, _, _, _, _]) dX3_least_20 (by decide) rfl ?_
        refine r_lload_n dX3_least_22 rfl ?_
        refine r_pc 23 rfl ?_
        refine r_lload dX3_least_23 rfl ?_
        refine r_mminl dX3_least_25 lk_min (by decide) (Nat.le_of_ble_eq_true rfl) ⟨Nat.le_refl _, Nat.le_refl _⟩ ?_
        refine r_lstore_n (ls' := [_, _, _, _, _, _, _, _]) dX3_least_28 (by decide) rfl ?_
        refine r_inc1 (ls' := [_, _, _, _, _, _, _, _]) dX3_least_29 (by decide) rfl rfl ?_
        refine r_goto 8 dX3_least_32 (by decide) ?_
        refine r_pc 8 rfl ?_
        exact ih
  refine r_lload_n dX3_least_0 rfl ?_
  refine r_lstore_n (ls' := [_, _, _, _, _, _, _, _]) dX3_least_1 (by decide) rfl ?_
  refine r_lload_n dX3_least_2 rfl ?_
  refine r_lstore (ls' := [_, _, _, _, _, _, _, _]) dX3_least_3 (by decide) rfl ?_
  refine r_iconst (v := (nI 1)) dX3_least_5 (by decide) ?_
  refine r_pc 6 rfl ?_
  refine r_istore (ls' := [_, _, _, _, _, _, _, _]) dX3_least_6 (by decide) rfl ?_
  refine r_pc 8 rfl ?_
  exact L 3 0 (by omega)
def key (s : Nat) (q : Int64) : Int64 := if s = 0 then q else (lsI q (decide (s = 1)) 3).2
theorem key0 (q : Int64) : key 0 q = q := by simp [key]
theorem key1 (q : Int64) : key 1 q = (lsI q true 3).2 := by simp [key]
theorem key2 (q : Int64) : key 2 q = (lsI q false 3).2 := by simp [key]
def ulS (dp dq : Nat → Int64) (s : Nat) : Nat → (Nat → Int64) × Nat
  | 0 => (dq, 0)
  | i + 1 => match amg (key s (dp i)) (ulS dp dq s i).1 (ulS dp dq s i).2 with
    | true => ulS dp dq s i
    | false => (vp_updL (ulS dp dq s i).1 (ulS dp dq s i).2 (key s (dp i)), (ulS dp dq s i).2 + 1)
theorem ulS_le (dp dq : Nat → Int64) (s : Nat) : ∀ i, (ulS dp dq s i).2 ≤ i
  | 0 => Nat.le_refl _
  | i + 1 => by
    have := ulS_le dp dq s i
    unfold ulS
    split
    · omega
    · show _ + 1 ≤ i + 1
      omega
def wvb (wv : Nat → Nat) (j : Nat) : Bool := !decide (wv j = 0)
def nrw (wv : Nat → Nat) (lr : Nat → Int32) : Nat → (Nat → Int32)
  | 0 => lr
  | j + 1 => match wvb wv j with
    | true => upd (nrw wv lr j) (cnt (wvb wv) j) (nI (10 * j + wv j))
    | false => nrw wv lr j
section M1
variable {tb : Nat → Int32} {tl : Int32} {tc : Nat → Int32} {tn : Int32} {fc ff fs ft fu fw : Nat → Int32} {fy fd : Int32} {dc : Nat → Int32} {dp dq : Nat → Int64} {dn dm : Int32} {ec : Nat → Int32} {ep eq : Nat → Int64} {en em ik : Int32} {lr : Nat → Int32} {ln ly : Int32} {wh : Int64} {wr : Nat → Int64} {wf wb : Nat → Int32} {wn : Int32} {gz : G8} {wc : Nat → Int32} {ws : Int64} {wa pw pf pl : Int32} {ta : Nat → Int32}
variable {R : List AE}
theorem s_unlike {n s : Nat} (hn : n ≤ 200) (hs : s < 3) : Sem mX0_unlike 4 0 0 [.ref 11, .int (nI s)] (cW tb tl tc tn fc ff fs ft fu fw fy fd dc dp dq (nI n) dm ec ep eq en em ik lr ln ly wh wr wf wb wn gz wc ws wa pw pf pl ta, R) (some (.int (nI (ulS dp dq s (n + 1)).2))) (cW tb tl tc tn fc ff fs ft fu fw fy fd dc dp ((ulS dp dq s (n + 1)).1) (nI n) dm ec ep eq en em ik lr ln ly wh wr wf wb wn gz wc ws wa pw pf pl ta, R) := by
  refine sem_of (by decide) (Nat.le_of_ble_eq_true rfl) rfl ?_
  generalize hw0 : (cW tb tl tc tn fc ff fs ft fu fw fy fd dc dp dq (nI n) dm ec ep eq en em ik lr ln ly wh wr wf wb wn gz wc ws wa pw pf pl ta, R) = w0
  have L : ∀ (m i : Nat) (y4 : Option Int64), i + m = n + 1 → Rn mX0_unlike 4 0 0 w0 (some (.int (nI (ulS dp dq s (n + 1)).2))) (cW tb tl tc tn fc ff fs ft fu fw fy fd dc dp ((ulS dp dq s (n + 1)).1) (nI n) dm ec ep eq en em ik lr ln ly wh wr wf wb wn gz wc ws wa pw pf pl ta, R) 0 0 4 [some (.ref 11), some (.int (nI s)), some (.int (nI (ulS dp dq s i).2)), some (.int (nI i)), y4.map .long, none] [] (cW tb tl tc tn fc ff fs ft fu fw fy fd dc dp ((ulS dp dq s i).1) (nI n) dm ec ep eq en em ik lr ln ly wh wr wf wb wn gz wc ws wa pw pf pl ta, R) := by
    intro m
    induction m with
    | zero =>
      intro i y4 hi
      have : i = n + 1 := by omega
      subst this
      refine r_iload_n dX0_unlike_4 rfl ?_
      refine r_aload_n dX0_unlike_5 rfl ?_
      refine r_get dX0_unlike_6 fX0_20 rfl rfl ?_
      refine r_icmp_gtN 76 dX0_unlike_9 (by decide) (by omega) (by omega) (fun h9 => ?_) (fun h9 => ?_)
      · refine r_pc 76 rfl ?_
        refine r_iload_n dX0_unlike_76 rfl ?_
        exact r_iret dX0_unlike_77 rfl rfl rfl
      · exact absurd h9 (by omega)
    | succ m ih =>
      intro i y4 hi
      have ih := ih (i + 1) (some (key s (dp i))) (by omega)
      have hle := ulS_le dp dq s i
      have T : Rn mX0_unlike 4 0 0 w0 (some (.int (nI (ulS dp dq s (n + 1)).2))) (cW tb tl tc tn fc ff fs ft fu fw fy fd dc dp ((ulS dp dq s (n + 1)).1) (nI n) dm ec ep eq en em ik lr ln ly wh wr wf wb wn gz wc ws wa pw pf pl ta, R) 0 0 44 [some (.ref 11), some (.int (nI s)), some (.int (nI (ulS dp dq s i).2)), some (.int (nI i)), none, none] [.long (key s (dp i))] (cW tb tl tc tn fc ff fs ft fu fw fy fd dc dp ((ulS dp dq s i).1) (nI n) dm ec ep eq en em ik lr ln ly wh wr wf wb wn gz wc ws wa pw pf pl ta, R) := by
        cases ha : amg (key s (dp i)) (ulS dp dq s i).1 (ulS dp dq s i).2 with
        | true =>
          have he : ulS dp dq s (i + 1) = ulS dp dq s i := by rw [ulS, ha]
          rw [he] at ih
          refine r_lstore (ls' := [_, _, _, _, _, _]) dX0_unlike_44 (by decide) rfl ?_
          refine r_lload dX0_unlike_46 rfl ?_
          refine r_aload_n dX0_unlike_48 rfl ?_
          refine r_get dX0_unlike_49 fX0_17 rfl rfl ?_
          refine r_iload_n dX0_unlike_52 rfl ?_
          refine r_pc 53 rfl ?_
          refine r_cS dX0_unlike_53 (s_isAmong _ (N := 201) rfl (by omega) (by decide)) lX0_43 rfl rfl (by decide) ⟨Nat.le_refl _, Nat.le_refl _⟩ (Nat.le_of_ble_eq_true rfl) ?_
          rw [ha]
          refine r_if_ne 70 dX0_unlike_56 (by decide) (fun h56 => ?_) (fun h56 => ?_)
          · refine r_pc 70 rfl ?_
            refine r_inc1 (ls' := [_, _, _, _, _, _]) dX0_unlike_70 (by decide) rfl rfl ?_
            refine r_goto 4 dX0_unlike_73 (by decide) ?_
            refine r_pc 4 rfl ?_
            exact ih
          · exact absurd h56 (by decide)
        | false =>
          have he : ulS dp dq s (i + 1) = (vp_updL (ulS dp dq s i).1 (ulS dp dq s i).2 (key s (dp i)), (ulS dp dq s i).2 + 1) := by rw [ulS, ha]
          rw [he] at ih
          refine r_lstore (ls' := [_, _, _, _, _, _]) dX0_unlike_44 (by decide) rfl ?_
          refine r_lload dX0_unlike_46 rfl ?_
          refine r_aload_n dX0_unlike_48 rfl ?_
          refine r_get dX0_unlike_49 fX0_17 rfl rfl ?_
          refine r_iload_n dX0_unlike_52 rfl ?_
          refine r_pc 53 rfl ?_
          refine r_cS dX0_unlike_53 (s_isAmong _ (N := 201) rfl (by omega) (by decide)) lX0_43 rfl rfl (by decide) ⟨Nat.le_refl _, Nat.le_refl _⟩ (Nat.le_of_ble_eq_true rfl) ?_
          rw [ha]
          refine r_if_ne 70 dX0_unlike_56 (by decide) (fun h56 => ?_) (fun h56 => ?_)
          · exact absurd rfl h56
          · refine r_pc 59 rfl ?_
            refine r_aload_n dX0_unlike_59 rfl ?_
            refine r_get dX0_unlike_60 fX0_17 rfl rfl ?_
            refine r_iload_n dX0_unlike_63 rfl ?_
            refine r_lload dX0_unlike_64 rfl ?_
            refine r_last (w2 := (cW _ _ _ _ _ _ _ _ _ _ _ _ _ _ _ _ _ _ _ _ _ _ _ _ _ _ _ _ _ _ _ _ _ _ _ _ _ _ _, _)) dX0_unlike_66 rfl rfl (by omega) (by decide) rfl ?_
            refine r_pc 67 rfl ?_
            refine r_inc1 (ls' := [_, _, _, _, _, _]) dX0_unlike_67 (by decide) rfl rfl ?_
            refine r_inc1 (ls' := [_, _, _, _, _, _]) dX0_unlike_70 (by decide) rfl rfl ?_
            refine r_goto 4 dX0_unlike_73 (by decide) ?_
            refine r_pc 4 rfl ?_
            exact ih
      refine r_drop (ls' := [some (.ref 11), some (.int (nI s)), some (.int (nI (ulS dp dq s i).2)), some (.int (nI i)), none, none]) ⟨rfl, rfl, rfl, rfl, trivial⟩ ?_
      match s, hs with
      | 0, _ =>
        rw [key0] at T
        refine r_iload_n dX0_unlike_4 rfl ?_
        refine r_aload_n dX0_unlike_5 rfl ?_
        refine r_get dX0_unlike_6 fX0_20 rfl rfl ?_
        refine r_icmp_gtN 76 dX0_unlike_9 (by decide) (by omega) (by omega) (fun h9 => ?_) (fun h9 => ?_)
        · exact absurd h9 (by omega)
        · refine r_pc 12 rfl ?_
          refine r_iload_n dX0_unlike_12 rfl ?_
          refine r_if_ne 25 dX0_unlike_13 (by decide) (fun h13 => ?_) (fun h13 => ?_)
          · exact absurd rfl h13
          · refine r_pc 16 rfl ?_
            refine r_aload_n dX0_unlike_16 rfl ?_
            refine r_get dX0_unlike_17 fX0_13 rfl rfl ?_
            refine r_iload_n dX0_unlike_20 rfl ?_
            refine r_lald dX0_unlike_21 rfl rfl (by omega) (by decide) ?_
            refine r_goto 44 dX0_unlike_22 (by decide) ?_
            refine r_pc 44 rfl ?_
            exact T
      | 1, _ =>
        rw [key1] at T
        refine r_iload_n dX0_unlike_4 rfl ?_
        refine r_aload_n dX0_unlike_5 rfl ?_
        refine r_get dX0_unlike_6 fX0_20 rfl rfl ?_
        refine r_icmp_gtN 76 dX0_unlike_9 (by decide) (by omega) (by omega) (fun h9 => ?_) (fun h9 => ?_)
        · exact absurd h9 (by omega)
        · refine r_pc 12 rfl ?_
          refine r_iload_n dX0_unlike_12 rfl ?_
          refine r_if_ne 25 dX0_unlike_13 (by decide) (fun h13 => ?_) (fun h13 => ?_)
          · refine r_pc 25 rfl ?_
            refine r_aload_n dX0_unlike_25 rfl ?_
            refine r_get dX0_unlike_26 fX0_13 rfl rfl ?_
            refine r_iload_n dX0_unlike_29 rfl ?_
            refine r_lald dX0_unlike_30 rfl rfl (by omega) (by decide) ?_
            refine r_iload_n dX0_unlike_31 rfl ?_
            refine r_pc 32 rfl ?_
            refine r_iconst (v := (nI 1)) dX0_unlike_32 (by decide) ?_
            refine r_icmp_neN 40 dX0_unlike_33 (by decide) (by omega) (by omega) (fun h33 => ?_) (fun h33 => ?_)
            · exact absurd rfl h33
            · refine r_pc 36 rfl ?_
              refine r_iconst (v := (nI 1)) dX0_unlike_36 (by decide) ?_
              refine r_goto 41 dX0_unlike_37 (by decide) ?_
              refine r_cS dX0_unlike_41 (s_least _ (r := true)) lX0_39 rfl rfl (by decide) ⟨Nat.le_refl _, Nat.le_refl _⟩ (Nat.le_of_ble_eq_true rfl) ?_
              refine r_pc 44 rfl ?_
              exact T
          · exact absurd h13 (by decide)
      | 2, _ =>
        rw [key2] at T
        refine r_iload_n dX0_unlike_4 rfl ?_
        refine r_aload_n dX0_unlike_5 rfl ?_
        refine r_get dX0_unlike_6 fX0_20 rfl rfl ?_
        refine r_icmp_gtN 76 dX0_unlike_9 (by decide) (by omega) (by omega) (fun h9 => ?_) (fun h9 => ?_)
        · exact absurd h9 (by omega)
        · refine r_pc 12 rfl ?_
          refine r_iload_n dX0_unlike_12 rfl ?_
          refine r_if_ne 25 dX0_unlike_13 (by decide) (fun h13 => ?_) (fun h13 => ?_)
          · refine r_pc 25 rfl ?_
            refine r_aload_n dX0_unlike_25 rfl ?_
            refine r_get dX0_unlike_26 fX0_13 rfl rfl ?_
            refine r_iload_n dX0_unlike_29 rfl ?_
            refine r_lald dX0_unlike_30 rfl rfl (by omega) (by decide) ?_
            refine r_iload_n dX0_unlike_31 rfl ?_
            refine r_pc 32 rfl ?_
            refine r_iconst (v := (nI 1)) dX0_unlike_32 (by decide) ?_
            refine r_icmp_neN 40 dX0_unlike_33 (by decide) (by omega) (by omega) (fun h33 => ?_) (fun h33 => ?_)
            · refine r_pc 40 rfl ?_
              refine r_iconst (v := (nI 0)) dX0_unlike_40 (by decide) ?_
              refine r_cS dX0_unlike_41 (s_least _ (r := false)) lX0_39 rfl rfl (by decide) ⟨Nat.le_refl _, Nat.le_refl _⟩ (Nat.le_of_ble_eq_true rfl) ?_
              refine r_pc 44 rfl ?_
              exact T
            · exact absurd h33 (by decide)
          · exact absurd h13 (by decide)
  subst hw0
  refine r_iconst (v := (nI 0)) dX0_unlike_0 (by decide) ?_
  refine r_istore_n (ls' := [_, _, _, _, _, _]) dX0_unlike_1 (by decide) rfl ?_
  refine r_iconst (v := (nI 0)) dX0_unlike_2 (by decide) ?_
  refine r_istore_n (ls' := [_, _, _, _, _, _]) dX0_unlike_3 (by decide) rfl ?_
  refine r_pc 4 rfl ?_
  exact L (n + 1) 0 none (by omega)
theorem s_note {wv : Nat → Nat} (hw : ∀ j, j < 8 → fw j = nI (wv j) ∧ wv j < 10) : Sem mX1_note 2 0 0 [.ref 19, .ref 4] (cW tb tl tc tn fc ff fs ft fu fw fy fd dc dp dq dn dm ec ep eq en em ik lr ln ly wh wr wf wb wn gz wc ws wa pw pf pl ta, R) none (cW tb tl tc tn fc ff fs ft fu fw fy fd dc dp dq dn dm ec ep eq en em ik (nrw wv lr 8) (nI (cnt (wvb wv) 8)) (fy) wh wr wf wb wn gz wc ws wa pw pf pl ta, R) := by
  refine sem_of (by decide) (Nat.le_of_ble_eq_true rfl) rfl ?_
  generalize hw0 : (cW tb tl tc tn fc ff fs ft fu fw fy fd dc dp dq dn dm ec ep eq en em ik lr ln ly wh wr wf wb wn gz wc ws wa pw pf pl ta, R) = w0
  have L : ∀ (m i : Nat), i + m = 8 → Rn mX1_note 2 0 0 w0 none (cW tb tl tc tn fc ff fs ft fu fw fy fd dc dp dq dn dm ec ep eq en em ik (nrw wv lr 8) (nI (cnt (wvb wv) 8)) (fy) wh wr wf wb wn gz wc ws wa pw pf pl ta, R) 0 0 14 [some (.ref 19), some (.ref 4), some (.int (nI i))] [] (cW tb tl tc tn fc ff fs ft fu fw fy fd dc dp dq dn dm ec ep eq en em ik (nrw wv lr i) (nI (cnt (wvb wv) i)) (fy) wh wr wf wb wn gz wc ws wa pw pf pl ta, R) := by
    intro m
    induction m with
    | zero =>
      intro i hi
      have : i = 8 := by omega
      subst this
      refine r_iload_n dX1_note_14 rfl ?_
      refine r_bipush (v := (nI 8)) dX1_note_15 (by decide) ?_
      refine r_icmp_geN 65 dX1_note_17 (by decide) (by omega) (by omega) (fun h17 => ?_) (fun h17 => ?_)
      · refine r_pc 65 rfl ?_
        exact r_vret dX1_note_65 rfl rfl rfl
      · exact absurd h17 (by omega)
    | succ m ih =>
      intro i hi
      have hi8 : i < 8 := by omega
      have ih := ih (i + 1) (by omega)
      obtain ⟨e1, b1⟩ := hw i hi8
      have hc := cnt_le (wvb wv) i
      by_cases q : wv i = 0
      · have hb : wvb wv i = false := by simp [wvb, q]
        have e2 : nrw wv lr (i + 1) = nrw wv lr i := by rw [nrw, hb]
        have e3 : cnt (wvb wv) (i + 1) = cnt (wvb wv) i := by rw [cnt, hb]
        rw [e2, e3] at ih
        refine r_iload_n dX1_note_14 rfl ?_
        refine r_bipush (v := (nI 8)) dX1_note_15 (by decide) ?_
        refine r_icmp_geN 65 dX1_note_17 (by decide) (by omega) (by omega) (fun h17 => ?_) (fun h17 => ?_)
        · exact absurd h17 (by omega)
        · refine r_pc 20 rfl ?_
          refine r_aload_n dX1_note_20 rfl ?_
          refine r_get dX1_note_21 fX1_28 rfl rfl ?_
          refine r_iload_n dX1_note_24 rfl ?_
          refine r_iald dX1_note_25 rfl rfl hi8 (by decide) ?_
          refine r_topi _ e1 ?_
          refine r_if_eq 59 dX1_note_26 (by decide) (fun h26 => ?_) (fun h26 => ?_)
          · refine r_pc 59 rfl ?_
            refine r_inc1 (ls' := [_, _, _]) dX1_note_59 (by decide) rfl rfl ?_
            refine r_goto 14 dX1_note_62 (by decide) ?_
            refine r_pc 14 rfl ?_
            exact ih
          · exact absurd (by rw [q]; rfl) h26
      · have hb : wvb wv i = true := by simp [wvb, q]
        have e2 : nrw wv lr (i + 1) = upd (nrw wv lr i) (cnt (wvb wv) i) (nI (10 * i + wv i)) := by rw [nrw, hb]
        have e3 : cnt (wvb wv) (i + 1) = cnt (wvb wv) i + 1 := by rw [cnt, hb]
        rw [e2, e3] at ih
        refine r_iload_n dX1_note_14 rfl ?_
        refine r_bipush (v := (nI 8)) dX1_note_15 (by decide) ?_
        refine r_icmp_geN 65 dX1_note_17 (by decide) (by omega) (by omega) (fun h17 => ?_) (fun h17 => ?_)
        · exact absurd h17 (by omega)
        · refine r_pc 20 rfl ?_
          refine r_aload_n dX1_note_20 rfl ?_
          refine r_get dX1_note_21 fX1_28 rfl rfl ?_
          refine r_iload_n dX1_note_24 rfl ?_
          refine r_iald dX1_note_25 rfl rfl hi8 (by decide) ?_
          refine r_topi _ e1 ?_
          refine r_if_eq 59 dX1_note_26 (by decide) (fun h26 => ?_) (fun h26 => ?_)
          · exact absurd (nI_z (by omega) h26) q
          · refine r_pc 29 rfl ?_
            refine r_aload_n dX1_note_29 rfl ?_
            refine r_get dX1_note_30 fX1_9 rfl rfl ?_
            refine r_aload_n dX1_note_33 rfl ?_
            refine r_get dX1_note_34 fX1_15 rfl rfl ?_
            refine r_bipush (v := (nI 10)) dX1_note_37 (by decide) ?_
            refine r_pc 39 rfl ?_
            refine r_iload_n dX1_note_39 rfl ?_
            refine r_imulN dX1_note_40 ?_
            refine r_aload_n dX1_note_41 rfl ?_
            refine r_get dX1_note_42 fX1_28 rfl rfl ?_
            refine r_iload_n dX1_note_45 rfl ?_
            refine r_pc 46 rfl ?_
            refine r_iald dX1_note_46 rfl rfl hi8 (by decide) ?_
            refine r_topi _ e1 ?_
            refine r_iaddN dX1_note_47 ?_
            refine r_iast (w2 := (cW _ _ _ _ _ _ _ _ _ _ _ _ _ _ _ _ _ _ _ _ _ _ _ _ _ _ _ _ _ _ _ _ _ _ _ _ _ _ _, _)) dX1_note_48 rfl rfl (by omega) (by decide) rfl ?_
            refine r_aload_n dX1_note_49 rfl ?_
            refine r_dup dX1_note_50 rfl ?_
            refine r_pc 51 rfl ?_
            refine r_get dX1_note_51 fX1_15 rfl rfl ?_
            refine r_iconst (v := (nI 1)) dX1_note_54 (by decide) ?_
            refine r_iaddN dX1_note_55 ?_
            refine r_put (w2 := (cW _ _ _ _ _ _ _ _ _ _ _ _ _ _ _ _ _ _ _ _ _ _ _ _ _ _ _ _ _ _ _ _ _ _ _ _ _ _ _, _)) dX1_note_56 fX1_15 rfl rfl (Nat.le_of_ble_eq_true rfl) (fun _ => rfl) (fun _ => rfl) rfl ?_
            refine r_inc1 (ls' := [_, _, _]) dX1_note_59 (by decide) rfl rfl ?_
            refine r_pc 62 rfl ?_
            refine r_goto 14 dX1_note_62 (by decide) ?_
            refine r_pc 14 rfl ?_
            exact ih
  subst hw0
  refine r_aload_n dX1_note_0 rfl ?_
  refine r_cVv dX1_note_1 s_clearF lX1_22 rfl rfl rfl (by decide) ⟨Nat.le_refl _, Nat.le_refl _⟩ (Nat.le_of_ble_eq_true rfl) ?_
  refine r_aload_n dX1_note_4 rfl ?_
  refine r_aload_n dX1_note_5 rfl ?_
  refine r_get dX1_note_6 fX1_25 rfl rfl ?_
  refine r_pc 9 rfl ?_
  refine r_put (w2 := (cW _ _ _ _ _ _ _ _ _ _ _ _ _ _ _ _ _ _ _ _ _ _ _ _ _ _ _ _ _ _ _ _ _ _ _ _ _ _ _, _)) dX1_note_9 fX1_19 rfl rfl (Nat.le_of_ble_eq_true rfl) (fun _ => rfl) (fun _ => rfl) rfl ?_
  refine r_iconst (v := (nI 0)) dX1_note_12 (by decide) ?_
  refine r_istore_n (ls' := [_, _, _]) dX1_note_13 (by decide) rfl ?_
  refine r_pc 14 rfl ?_
  exact L 8 0 (by omega)
end M1
