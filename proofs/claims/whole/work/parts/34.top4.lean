def alk (now : Int64) (r : Bool) : Nat → Nat → Int64 → Option Nat
  | 0, _, _ => none
  | m + 1, k, t => if t = now then some k else alk now r m (k + 1) (tuI t r 8)
theorem sfx_ext {dc dc' : Nat → Int32} {n i : Nat} (h : ∀ j, j < n → dc j = dc' j) (hi : i < n) : ∀ m k, sfx dc n i m k = sfx dc' n i m k
  | 0, k => rfl
  | m + 1, k => by
    unfold sfx
    by_cases q : i + k < n
    · rw [h (i + k) q, h i hi, sfx_ext h hi m (k + 1)]
    · rw [if_neg (fun z => q z.1), if_neg (fun z => q z.1)]
theorem dtx_ext {cd : Nat → Nat} {dc dc' : Nat → Int32} {n : Nat} (h : ∀ j, j < n → dc j = dc' j) : ∀ m i, dtx cd dc n m i = dtx cd dc' n m i
  | 0, _ => rfl
  | m + 1, i => by
    unfold dtx
    by_cases q : i < n
    · rw [if_pos q, if_pos q, show sameN dc n i = sameN dc' n i from sfx_ext h q 3 1, dtx_ext h m]
    · rw [if_neg q, if_neg q]
theorem dtx_len {cd : Nat → Nat} {dc : Nat → Int32} {n : Nat} (hc : ∀ j, j < n → cd j / 100 < 9 ∧ cd j % 100 < 12) : ∀ m i, (dtx cd dc n m i).length ≤ 18 * m
  | 0, _ => Nat.le_refl _
  | m + 1, i => by
    unfold dtx
    split
    · rename_i q
      have h1 := callB_len _ (hc i q).1 _ (hc i q).2 (sameN dc n i) (by have := (sameN_at dc n i).2; omega)
      have h2 := dtx_len (dc := dc) hc m (i + sameN dc n i)
      rw [List.length_append, List.length_append]
      split <;> simp <;> omega
    · simp
theorem pfd_at {i : Nat} (hi : i < 2 ^ 31) : ∀ (l : List Nat) (k : Nat) (v : Int32), k + l.length < 2 ^ 31 → pfd (nI i) k v l = if k ≤ i ∧ i < k + l.length then nI (l.getD (i - k) 0) else v
  | [], k, v, _ => by rw [if_neg (fun q => by simp at q; omega)]; rfl
  | b :: l, k, v, h => by
    rw [List.length_cons] at h
    show pfd (nI i) (k + 1) (if nI k = nI i then nI b else v) l = _
    rw [pfd_at hi l (k + 1) _ (by omega)]
    by_cases e : k = i
    · subst e
      rw [if_neg (fun q => by omega), if_pos rfl, if_pos ⟨Nat.le_refl _, by rw [List.length_cons]; omega⟩, Nat.sub_self]
      rfl
    · rw [if_neg (fun q => e ((nI_eq (by omega) hi).mp q))]
      by_cases q : k + 1 ≤ i ∧ i < k + 1 + l.length
      · rw [if_pos q, if_pos ⟨by omega, by rw [List.length_cons]; omega⟩]
        rw [show i - k = (i - (k + 1)) + 1 by omega]
        rfl
      · rw [if_neg q, if_neg (fun z => q ⟨by omega, by rw [List.length_cons] at z; omega⟩)]
/-- the dance as a text -/
def txt (cd : Nat → Nat) (n : Nat) : List Nat := dtx cd (fun j => nI (cd j)) n 200 0
section C5
variable {R : List AE} {w : WD} {L : Nat} {b : Nat → Nat} {n m : Nat} {cd : Nat → Nat} {Q : Nat → Int64} {ik : Bool} {kn : Nat} {kc : Nat → Nat} {kQ : Nat → Int64} {fn : Nat} {fr : Nat → Int32} {fz : Int32} {tal : Nat → Int32}
theorem c_alike0 {x : Int32} (hC : CI L b n m cd Q ik kn kc kQ fn fr fz tal R w) (h : x < 0 ∨ nI 1 < x) : SemP mX8_alike 4 0 0 [.ref 0, .int x] w (Top (-1) (CI L b n m cd Q ik kn kc kQ fn fr fz tal R)) := by
  obtain ⟨tb, tc, tn, fc, ff, fs, ft, fu, fw, fy, fd, dc, dp, dq, ec, ep, eq, em, lr, wr, wf, wb, wn, gz, wc, ws, wa, pw, pf, pl, ta, rfl, ⟨s1, s2, s3, s4, s5, s6⟩, hB, hdc, hdp, hec, hep, hlr, hta, hwo⟩ := hC
  have hn : n ≤ 200 := Nat.le_trans s3 s4.1
  have hm : m ≤ 200 := s4.1
  have hkn : kn ≤ 200 := s5.1
  have hQn : dp n = Q n := hdp n s3
  have hVn : Vq (Q n) := s4.2.2.1 n s3
  refine semP_of (by decide) (Nat.le_of_ble_eq_true rfl) rfl ?_
  refine r_iload_n dX8_alike_0 rfl ?_
  refine r_if_lt 9 dX8_alike_1 (by decide) (fun h1 => ?_) (fun h1 => ?_)
  · refine r_pc 9 rfl ?_
    refine r_iconst (v := (-1)) dX8_alike_9 (by decide) ?_
    exact r_iretP dX8_alike_10 rfl ⟨rfl, _, _, _, _, _, _, _, _, _, _, _, _, _, _, _, _, _, _, _, _, _, _, _, _, _, _, _, _, _, _, _, rfl, ⟨⟨s1, s2, s3, s4, s5, s6⟩, hB, hdc, hdp, hec, hep, hlr, hta, hwo⟩⟩
  · refine r_pc 4 rfl ?_
    refine r_iload_n dX8_alike_4 rfl ?_
    refine r_iconst (v := (nI 1)) dX8_alike_5 (by decide) ?_
    refine r_icmp_le 11 dX8_alike_6 (by decide) (fun h6 => ?_) (fun h6 => ?_)
    · exact absurd h (fun z => by rcases z with z | z; (exact h1 z); (exact Int32.not_lt.mpr h6 z))
    · refine r_pc 9 rfl ?_
      refine r_iconst (v := (-1)) dX8_alike_9 (by decide) ?_
      exact r_iretP dX8_alike_10 rfl ⟨rfl, _, _, _, _, _, _, _, _, _, _, _, _, _, _, _, _, _, _, _, _, _, _, _, _, _, _, _, _, _, _, _, rfl, ⟨⟨s1, s2, s3, s4, s5, s6⟩, hB, hdc, hdp, hec, hep, hlr, hta, hwo⟩⟩
theorem c_alike1 {s : Nat} (hC : CI L b n m cd Q (false) kn kc kQ fn fr fz tal R w) (h : s < 2) : SemP mX8_alike 4 0 0 [.ref 0, .int (nI s)] w (Top (-5) (CI L b n m cd Q (false) kn kc kQ fn fr fz tal R)) := by
  obtain ⟨tb, tc, tn, fc, ff, fs, ft, fu, fw, fy, fd, dc, dp, dq, ec, ep, eq, em, lr, wr, wf, wb, wn, gz, wc, ws, wa, pw, pf, pl, ta, rfl, ⟨s1, s2, s3, s4, s5, s6⟩, hB, hdc, hdp, hec, hep, hlr, hta, hwo⟩ := hC
  have hn : n ≤ 200 := Nat.le_trans s3 s4.1
  have hm : m ≤ 200 := s4.1
  have hkn : kn ≤ 200 := s5.1
  have hQn : dp n = Q n := hdp n s3
  have hVn : Vq (Q n) := s4.2.2.1 n s3
  refine semP_of (by decide) (Nat.le_of_ble_eq_true rfl) rfl ?_
  refine r_iload_n dX8_alike_0 rfl ?_
  refine r_if_lt 9 dX8_alike_1 (by decide) (fun h1 => ?_) (fun h1 => ?_)
  · exact absurd h1 (nI_pos (by omega))
  · refine r_pc 4 rfl ?_
    refine r_iload_n dX8_alike_4 rfl ?_
    refine r_iconst (v := (nI 1)) dX8_alike_5 (by decide) ?_
    refine r_icmp_leN 11 dX8_alike_6 (by decide) (by omega) (by omega) (fun h6 => ?_) (fun h6 => ?_)
    · refine r_pc 11 rfl ?_
      refine r_aload_n dX8_alike_11 rfl ?_
      refine r_get dX8_alike_12 fX8_33 rfl rfl ?_
      refine r_if_ne 21 dX8_alike_15 (by decide) (fun h15 => ?_) (fun h15 => ?_)
      · exact absurd rfl h15
      · refine r_pc 18 rfl ?_
        refine r_bipush (v := (-5)) dX8_alike_18 (by decide) ?_
        exact r_iretP dX8_alike_20 rfl ⟨rfl, _, _, _, _, _, _, _, _, _, _, _, _, _, _, _, _, _, _, _, _, _, _, _, _, _, _, _, _, _, _, _, rfl, ⟨⟨s1, s2, s3, s4, s5, s6⟩, hB, hdc, hdp, hec, hep, hlr, hta, hwo⟩⟩
    · exact absurd h6 (by omega)
theorem c_alike2 {s : Nat} (hC : CI L b n m cd Q (true) kn kc kQ fn fr fz tal R w) (h : s < 2) : SemP mX8_alike 4 0 0 [.ref 0, .int (nI s)] w (Top (stN (alk (Q n) (decide (s = 0)) 4 0 (kQ kn))) (CI L b n m cd Q (true) kn kc kQ fn fr fz tal R)) := by
  obtain ⟨tb, tc, tn, fc, ff, fs, ft, fu, fw, fy, fd, dc, dp, dq, ec, ep, eq, em, lr, wr, wf, wb, wn, gz, wc, ws, wa, pw, pf, pl, ta, rfl, ⟨s1, s2, s3, s4, s5, s6⟩, hB, hdc, hdp, hec, hep, hlr, hta, hwo⟩ := hC
  have hn : n ≤ 200 := Nat.le_trans s3 s4.1
  have hm : m ≤ 200 := s4.1
  have hkn : kn ≤ 200 := s5.1
  have hQn : dp n = Q n := hdp n s3
  have hVn : Vq (Q n) := s4.2.2.1 n s3
  refine semP_of (by decide) (Nat.le_of_ble_eq_true rfl) rfl ?_
  have hfin : ∀ P : WD → Prop, True := fun _ => trivial
  have hend : CI L b n m cd Q (true) kn kc kQ fn fr fz tal R (cW tb (nI L) tc tn fc ff fs ft fu fw fy fd dc dp dq (nI n) (nI m) ec ep eq (nI kn) em (bI true) lr (nI fn) (fz) (homeP) wr wf wb wn gz wc ws wa pw pf pl ta, R) := ⟨tb, tc, tn, fc, ff, fs, ft, fu, fw, fy, fd, dc, dp, dq, ec, ep, eq, em, lr, wr, wf, wb, wn, gz, wc, ws, wa, pw, pf, pl, ta, rfl, ⟨⟨s1, s2, s3, s4, s5, s6⟩, hB, hdc, hdp, hec, hep, hlr, hta, hwo⟩⟩
  generalize hw0 : (cW tb (nI L) tc tn fc ff fs ft fu fw fy fd dc dp dq (nI n) (nI m) ec ep eq (nI kn) em (bI true) lr (nI fn) (fz) (homeP) wr wf wb wn gz wc ws wa pw pf pl ta, R) = w0 at hend
  have Lp : ∀ (m' k : Nat) (t : Int64), k + m' = 4 → Rp mX8_alike 4 0 0 w0 (Top (stN (alk (Q n) (decide (s = 0)) m' k t)) (CI L b n m cd Q (true) kn kc kQ fn fr fz tal R)) 0 0 41 [some (.ref 0), some (.int (nI s)), some (.long (Q n)), none, some (.long t), none, some (.int (nI k))] [] w0 := by
    intro m'
    induction m' with
    | zero =>
      intro k t hk
      refine r_iload dX8_alike_41 rfl ?_
      refine r_iconst (v := (nI 4)) dX8_alike_43 (by decide) ?_
      refine r_icmp_geN 79 dX8_alike_44 (by decide) (by omega) (by omega) (fun h44 => ?_) (fun h44 => ?_)
      · refine r_pc 79 rfl ?_
        refine r_bipush (v := (-2)) dX8_alike_79 (by decide) ?_
        exact r_iretP dX8_alike_81 rfl ⟨rfl, hend⟩
      · exact absurd h44 (by omega)
    | succ m' ih =>
      intro k t hk
      unfold alk
      by_cases q : t = Q n
      · rw [if_pos q]
        refine r_iload dX8_alike_41 rfl ?_
        refine r_iconst (v := (nI 4)) dX8_alike_43 (by decide) ?_
        refine r_icmp_geN 79 dX8_alike_44 (by decide) (by omega) (by omega) (fun h44 => ?_) (fun h44 => ?_)
        · exact absurd h44 (by omega)
        · refine r_pc 47 rfl ?_
          refine r_lload dX8_alike_47 rfl ?_
          refine r_lload_n dX8_alike_49 rfl ?_
          refine r_lcmp dX8_alike_50 ?_
          refine r_if_ne 57 dX8_alike_51 (by decide) (fun h51 => ?_) (fun h51 => ?_)
          · exact absurd ((lg_cmp_eq _ _).mpr q) h51
          · refine r_pc 54 rfl ?_
            refine r_iload dX8_alike_54 rfl ?_
            exact r_iretP dX8_alike_56 rfl ⟨rfl, hend⟩
      · rw [if_neg q]
        match s, h with
        | 0, _ =>
          refine r_iload dX8_alike_41 rfl ?_
          refine r_iconst (v := (nI 4)) dX8_alike_43 (by decide) ?_
          refine r_icmp_geN 79 dX8_alike_44 (by decide) (by omega) (by omega) (fun h44 => ?_) (fun h44 => ?_)
          · exact absurd h44 (by omega)
          · refine r_pc 47 rfl ?_
            refine r_lload dX8_alike_47 rfl ?_
            refine r_lload_n dX8_alike_49 rfl ?_
            refine r_lcmp dX8_alike_50 ?_
            refine r_if_ne 57 dX8_alike_51 (by decide) (fun h51 => ?_) (fun h51 => ?_)
            · refine r_pc 57 rfl ?_
              refine r_lload dX8_alike_57 rfl ?_
              refine r_iload_n dX8_alike_59 rfl ?_
              refine r_if_ne 67 dX8_alike_60 (by decide) (fun h60 => ?_) (fun h60 => ?_)
              · exact absurd rfl h60
              · refine r_pc 63 rfl ?_
                refine r_iconst (v := (nI 1)) dX8_alike_63 (by decide) ?_
                refine r_goto 68 dX8_alike_64 (by decide) ?_
                refine r_cS dX8_alike_68 (s_turned _ (r := true)) lX8_178 rfl rfl (by decide) ⟨Nat.le_refl _, Nat.le_refl _⟩ (Nat.le_of_ble_eq_true rfl) ?_
                refine r_lstore (ls' := [_, _, _, _, _, _, _]) dX8_alike_71 (by decide) rfl ?_
                refine r_inc1 (ls' := [_, _, _, _, _, _, _]) dX8_alike_73 (by decide) rfl rfl ?_
                refine r_pc 76 rfl ?_
                refine r_goto 41 dX8_alike_76 (by decide) ?_
                refine r_pc 41 rfl ?_
                exact ih (k + 1) _ (by omega)
            · exact absurd ((lg_cmp_eq _ _).mp h51) q
        | 1, _ =>
          refine r_iload dX8_alike_41 rfl ?_
          refine r_iconst (v := (nI 4)) dX8_alike_43 (by decide) ?_
          refine r_icmp_geN 79 dX8_alike_44 (by decide) (by omega) (by omega) (fun h44 => ?_) (fun h44 => ?_)
          · exact absurd h44 (by omega)
          · refine r_pc 47 rfl ?_
            refine r_lload dX8_alike_47 rfl ?_
            refine r_lload_n dX8_alike_49 rfl ?_
            refine r_lcmp dX8_alike_50 ?_
            refine r_if_ne 57 dX8_alike_51 (by decide) (fun h51 => ?_) (fun h51 => ?_)
            · refine r_pc 57 rfl ?_
              refine r_lload dX8_alike_57 rfl ?_
              refine r_iload_n dX8_alike_59 rfl ?_
              refine r_if_ne 67 dX8_alike_60 (by decide) (fun h60 => ?_) (fun h60 => ?_)
              · refine r_pc 67 rfl ?_
                refine r_iconst (v := (nI 0)) dX8_alike_67 (by decide) ?_
                refine r_cS dX8_alike_68 (s_turned _ (r := false)) lX8_178 rfl rfl (by decide) ⟨Nat.le_refl _, Nat.le_refl _⟩ (Nat.le_of_ble_eq_true rfl) ?_
                refine r_lstore (ls' := [_, _, _, _, _, _, _]) dX8_alike_71 (by decide) rfl ?_
                refine r_inc1 (ls' := [_, _, _, _, _, _, _]) dX8_alike_73 (by decide) rfl rfl ?_
                refine r_goto 41 dX8_alike_76 (by decide) ?_
                refine r_pc 41 rfl ?_
                exact ih (k + 1) _ (by omega)
              · exact absurd h60 (by decide)
            · exact absurd ((lg_cmp_eq _ _).mp h51) q
  subst hw0
  have Lp := Lp 4 0 (kQ kn) (by omega)
  rw [← hQn, ← hep kn (Nat.le_refl _)] at Lp ⊢
  refine r_iload_n dX8_alike_0 rfl ?_
  refine r_if_lt 9 dX8_alike_1 (by decide) (fun h1 => ?_) (fun h1 => ?_)
  · exact absurd h1 (nI_pos (by omega))
  · refine r_pc 4 rfl ?_
    refine r_iload_n dX8_alike_4 rfl ?_
    refine r_iconst (v := (nI 1)) dX8_alike_5 (by decide) ?_
    refine r_icmp_leN 11 dX8_alike_6 (by decide) (by omega) (by omega) (fun h6 => ?_) (fun h6 => ?_)
    · refine r_pc 11 rfl ?_
      refine r_aload_n dX8_alike_11 rfl ?_
      refine r_get dX8_alike_12 fX8_33 rfl rfl ?_
      refine r_if_ne 21 dX8_alike_15 (by decide) (fun h15 => ?_) (fun h15 => ?_)
      · refine r_pc 21 rfl ?_
        refine r_aload_n dX8_alike_21 rfl ?_
        refine r_get dX8_alike_22 fX8_26 rfl rfl ?_
        refine r_cV dX8_alike_25 (s_latest hn) lX8_87 rfl rfl rfl (by decide) ⟨Nat.le_refl _, Nat.le_refl _⟩ (Nat.le_of_ble_eq_true rfl) ?_
        refine r_lstore_n (ls' := [_, _, _, _, _, _, _]) dX8_alike_28 (by decide) rfl ?_
        refine r_aload_n dX8_alike_29 rfl ?_
        refine r_pc 30 rfl ?_
        refine r_get dX8_alike_30 fX8_30 rfl rfl ?_
        refine r_cV dX8_alike_33 (s_latestK hkn) lX8_87 rfl rfl rfl (by decide) ⟨Nat.le_refl _, Nat.le_refl _⟩ (Nat.le_of_ble_eq_true rfl) ?_
        refine r_lstore (ls' := [_, _, _, _, _, _, _]) dX8_alike_36 (by decide) rfl ?_
        refine r_iconst (v := (nI 0)) dX8_alike_38 (by decide) ?_
        refine r_istore (ls' := [_, _, _, _, _, _, _]) dX8_alike_39 (by decide) rfl ?_
        refine r_pc 41 rfl ?_
        refine r_pc 41 rfl ?_
        exact Lp
      · exact absurd h15 (by decide)
    · exact absurd h6 (by omega)
theorem c_text_b {x : Int32} (hC : CI L b n m cd Q ik kn kc kQ fn fr fz tal R w) (h : x < -1) : SemP mX8_text 9 0 0 [.ref 0, .int x] w (Top (-1) (CI L b n m cd Q ik kn kc kQ fn fr fz tal R)) := by
  obtain ⟨tb, tc, tn, fc, ff, fs, ft, fu, fw, fy, fd, dc, dp, dq, ec, ep, eq, em, lr, wr, wf, wb, wn, gz, wc, ws, wa, pw, pf, pl, ta, rfl, ⟨s1, s2, s3, s4, s5, s6⟩, hB, hdc, hdp, hec, hep, hlr, hta, hwo⟩ := hC
  have hn : n ≤ 200 := Nat.le_trans s3 s4.1
  have hm : m ≤ 200 := s4.1
  have hkn : kn ≤ 200 := s5.1
  have hQn : dp n = Q n := hdp n s3
  have hVn : Vq (Q n) := s4.2.2.1 n s3
  refine semP_of (by decide) (Nat.le_of_ble_eq_true rfl) rfl ?_
  refine r_iload_n dX8_text_0 rfl ?_
  refine r_iconst (v := (-1)) dX8_text_1 (by decide) ?_
  refine r_icmp_ge 7 dX8_text_2 (by decide) (fun h2 => ?_) (fun h2 => ?_)
  · exact absurd h (ge_m1.mp h2)
  · refine r_pc 5 rfl ?_
    refine r_iconst (v := (-1)) dX8_text_5 (by decide) ?_
    exact r_iretP dX8_text_6 rfl ⟨rfl, _, _, _, _, _, _, _, _, _, _, _, _, _, _, _, _, _, _, _, _, _, _, _, _, _, _, _, _, _, _, _, rfl, ⟨⟨s1, s2, s3, s4, s5, s6⟩, hB, hdc, hdp, hec, hep, hlr, hta, hwo⟩⟩
theorem c_text_m (hC : CI L b n m cd Q ik kn kc kQ fn fr fz tal R w) : SemP mX8_text 9 0 0 [.ref 0, .int (-1)] w (Top (nI (txt cd n).length) (CI L b n m cd Q ik kn kc kQ fn fr fz tal R)) := by
  obtain ⟨tb, tc, tn, fc, ff, fs, ft, fu, fw, fy, fd, dc, dp, dq, ec, ep, eq, em, lr, wr, wf, wb, wn, gz, wc, ws, wa, pw, pf, pl, ta, rfl, ⟨s1, s2, s3, s4, s5, s6⟩, hB, hdc, hdp, hec, hep, hlr, hta, hwo⟩ := hC
  have hn : n ≤ 200 := Nat.le_trans s3 s4.1
  have hm : m ≤ 200 := s4.1
  have hkn : kn ≤ 200 := s5.1
  have hQn : dp n = Q n := hdp n s3
  have hVn : Vq (Q n) := s4.2.2.1 n s3
  refine semP_of (by decide) (Nat.le_of_ble_eq_true rfl) rfl ?_
  have hcd : Cd dc n cd := fun j hj => ⟨hdc j (by omega), s4.2.1 j (by omega)⟩
  have e : dtx cd dc n 200 0 = txt cd n := dtx_ext (fun j hj => hdc j (by omega)) 200 0
  have hlen : (txt cd n).length ≤ 3600 := dtx_len (fun j hj => s4.2.1 j (by omega)) 200 0
  refine r_iload_n dX8_text_0 rfl ?_
  refine r_iconst (v := (-1)) dX8_text_1 (by decide) ?_
  refine r_icmp_ge 7 dX8_text_2 (by decide) (fun h2 => ?_) (fun h2 => ?_)
  · refine r_pc 7 rfl ?_
    refine r_aload_n dX8_text_7 rfl ?_
    refine r_get dX8_text_8 fX8_54 rfl rfl ?_
    refine r_aload_n dX8_text_11 rfl ?_
    refine r_get dX8_text_12 fX8_26 rfl rfl ?_
    refine r_iload_n dX8_text_15 rfl ?_
    refine r_pc 16 rfl ?_
    refine r_cVv dX8_text_16 (s_write hn hcd) lX8_187 rfl rfl rfl (by decide) ⟨Nat.le_refl _, Nat.le_refl _⟩ (Nat.le_of_ble_eq_true rfl) ?_
    refine r_iload_n dX8_text_19 rfl ?_
    refine r_iconst (v := (-1)) dX8_text_20 (by decide) ?_
    refine r_icmp_ne 32 dX8_text_21 (by decide) (fun h21 => ?_) (fun h21 => ?_)
    · exact absurd rfl h21
    · refine r_pc 24 rfl ?_
      refine r_aload_n dX8_text_24 rfl ?_
      refine r_get dX8_text_25 fX8_54 rfl rfl ?_
      refine r_get dX8_text_28 fX8_191 rfl rfl ?_
      rw [e]
      exact r_iretP dX8_text_31 rfl ⟨rfl, _, _, _, _, _, _, _, _, _, _, _, _, _, _, _, _, _, _, _, _, _, _, _, _, _, _, _, _, _, _, _, rfl, ⟨⟨s1, s2, s3, s4, s5, s6⟩, hB, hdc, hdp, hec, hep, hlr, hta, hwo⟩⟩
  · exact absurd (by decide) h2
theorem c_text_1 {i : Nat} (hC : CI L b n m cd Q ik kn kc kQ fn fr fz tal R w) (h : i < (txt cd n).length) : SemP mX8_text 9 0 0 [.ref 0, .int (nI i)] w (Top (nI ((txt cd n).getD i 0)) (CI L b n m cd Q ik kn kc kQ fn fr fz tal R)) := by
  obtain ⟨tb, tc, tn, fc, ff, fs, ft, fu, fw, fy, fd, dc, dp, dq, ec, ep, eq, em, lr, wr, wf, wb, wn, gz, wc, ws, wa, pw, pf, pl, ta, rfl, ⟨s1, s2, s3, s4, s5, s6⟩, hB, hdc, hdp, hec, hep, hlr, hta, hwo⟩ := hC
  have hn : n ≤ 200 := Nat.le_trans s3 s4.1
  have hm : m ≤ 200 := s4.1
  have hkn : kn ≤ 200 := s5.1
  have hQn : dp n = Q n := hdp n s3
  have hVn : Vq (Q n) := s4.2.2.1 n s3
  refine semP_of (by decide) (Nat.le_of_ble_eq_true rfl) rfl ?_
  have hcd : Cd dc n cd := fun j hj => ⟨hdc j (by omega), s4.2.1 j (by omega)⟩
  have e : dtx cd dc n 200 0 = txt cd n := dtx_ext (fun j hj => hdc j (by omega)) 200 0
  have hlen : (txt cd n).length ≤ 3600 := dtx_len (fun j hj => s4.2.1 j (by omega)) 200 0
  have hf : ∀ v, pfd (nI i) 0 v (txt cd n) = nI ((txt cd n).getD i 0) := fun v => by rw [pfd_at (by omega) _ 0 v (by omega), if_pos ⟨Nat.zero_le _, by omega⟩, Nat.sub_zero]
  refine r_iload_n dX8_text_0 rfl ?_
  refine r_iconst (v := (-1)) dX8_text_1 (by decide) ?_
  refine r_icmp_ge 7 dX8_text_2 (by decide) (fun h2 => ?_) (fun h2 => ?_)
  · refine r_pc 7 rfl ?_
    refine r_aload_n dX8_text_7 rfl ?_
    refine r_get dX8_text_8 fX8_54 rfl rfl ?_
    refine r_aload_n dX8_text_11 rfl ?_
    refine r_get dX8_text_12 fX8_26 rfl rfl ?_
    refine r_iload_n dX8_text_15 rfl ?_
    refine r_pc 16 rfl ?_
    refine r_cVv dX8_text_16 (s_write hn hcd) lX8_187 rfl rfl rfl (by decide) ⟨Nat.le_refl _, Nat.le_refl _⟩ (Nat.le_of_ble_eq_true rfl) ?_
    rw [e]
    refine r_iload_n dX8_text_19 rfl ?_
    refine r_iconst (v := (-1)) dX8_text_20 (by decide) ?_
    refine r_icmp_ne 32 dX8_text_21 (by decide) (fun h21 => ?_) (fun h21 => ?_)
    · refine r_pc 32 rfl ?_
      refine r_iload_n dX8_text_32 rfl ?_
      refine r_aload_n dX8_text_33 rfl ?_
      refine r_get dX8_text_34 fX8_54 rfl rfl ?_
      refine r_get dX8_text_37 fX8_191 rfl rfl ?_
      refine r_icmp_geN 53 dX8_text_40 (by decide) (by omega) (by omega) (fun h40 => ?_) (fun h40 => ?_)
      · exact absurd h40 (by omega)
      · refine r_pc 43 rfl ?_
        refine r_aload_n dX8_text_43 rfl ?_
        refine r_get dX8_text_44 fX8_54 rfl rfl ?_
        refine r_get dX8_text_47 fX8_192 rfl rfl ?_
        refine r_topi _ (hf _) ?_
        refine r_goto 55 dX8_text_50 (by decide) ?_
        exact r_iretP dX8_text_55 rfl ⟨rfl, _, _, _, _, _, _, _, _, _, _, _, _, _, _, _, _, _, _, _, _, _, _, _, _, _, _, _, _, _, _, _, rfl, ⟨⟨s1, s2, s3, s4, s5, s6⟩, hB, hdc, hdp, hec, hep, hlr, hta, hwo⟩⟩
    · exact absurd h21 (nI_m1 (by omega))
  · exact absurd (ge_m1.mpr (nI_ge_m1 _ (by omega))) h2
theorem c_text_2 {i : Nat} (hC : CI L b n m cd Q ik kn kc kQ fn fr fz tal R w) (h : (txt cd n).length ≤ i) (hi : i < 2 ^ 31) : SemP mX8_text 9 0 0 [.ref 0, .int (nI i)] w (Top (-2) (CI L b n m cd Q ik kn kc kQ fn fr fz tal R)) := by
  obtain ⟨tb, tc, tn, fc, ff, fs, ft, fu, fw, fy, fd, dc, dp, dq, ec, ep, eq, em, lr, wr, wf, wb, wn, gz, wc, ws, wa, pw, pf, pl, ta, rfl, ⟨s1, s2, s3, s4, s5, s6⟩, hB, hdc, hdp, hec, hep, hlr, hta, hwo⟩ := hC
  have hn : n ≤ 200 := Nat.le_trans s3 s4.1
  have hm : m ≤ 200 := s4.1
  have hkn : kn ≤ 200 := s5.1
  have hQn : dp n = Q n := hdp n s3
  have hVn : Vq (Q n) := s4.2.2.1 n s3
  refine semP_of (by decide) (Nat.le_of_ble_eq_true rfl) rfl ?_
  have hcd : Cd dc n cd := fun j hj => ⟨hdc j (by omega), s4.2.1 j (by omega)⟩
  have e : dtx cd dc n 200 0 = txt cd n := dtx_ext (fun j hj => hdc j (by omega)) 200 0
  have hlen : (txt cd n).length ≤ 3600 := dtx_len (fun j hj => s4.2.1 j (by omega)) 200 0
  refine r_iload_n dX8_text_0 rfl ?_
  refine r_iconst (v := (-1)) dX8_text_1 (by decide) ?_
  refine r_icmp_ge 7 dX8_text_2 (by decide) (fun h2 => ?_) (fun h2 => ?_)
  · refine r_pc 7 rfl ?_
    refine r_aload_n dX8_text_7 rfl ?_
    refine r_get dX8_text_8 fX8_54 rfl rfl ?_
    refine r_aload_n dX8_text_11 rfl ?_
    refine r_get dX8_text_12 fX8_26 rfl rfl ?_
    refine r_iload_n dX8_text_15 rfl ?_
    refine r_pc 16 rfl ?_
    refine r_cVv dX8_text_16 (s_write hn hcd) lX8_187 rfl rfl rfl (by decide) ⟨Nat.le_refl _, Nat.le_refl _⟩ (Nat.le_of_ble_eq_true rfl) ?_
    rw [e]
    refine r_iload_n dX8_text_19 rfl ?_
    refine r_iconst (v := (-1)) dX8_text_20 (by decide) ?_
    refine r_icmp_ne 32 dX8_text_21 (by decide) (fun h21 => ?_) (fun h21 => ?_)
    · refine r_pc 32 rfl ?_
      refine r_iload_n dX8_text_32 rfl ?_
      refine r_aload_n dX8_text_33 rfl ?_
      refine r_get dX8_text_34 fX8_54 rfl rfl ?_
      refine r_get dX8_text_37 fX8_191 rfl rfl ?_
      refine r_icmp_geN 53 dX8_text_40 (by decide) (by omega) (by omega) (fun h40 => ?_) (fun h40 => ?_)
      · refine r_pc 53 rfl ?_
        refine r_bipush (v := (-2)) dX8_text_53 (by decide) ?_
        exact r_iretP dX8_text_55 rfl ⟨rfl, _, _, _, _, _, _, _, _, _, _, _, _, _, _, _, _, _, _, _, _, _, _, _, _, _, _, _, _, _, _, _, rfl, ⟨⟨s1, s2, s3, s4, s5, s6⟩, hB, hdc, hdp, hec, hep, hlr, hta, hwo⟩⟩
      · exact absurd h40 (by omega)
    · exact absurd h21 (nI_m1 (by omega))
  · exact absurd (ge_m1.mpr (nI_ge_m1 _ (by omega))) h2
theorem c_pic_b {x : Int32} (hC : CI L b n m cd Q ik kn kc kQ fn fr fz tal R w) (h : x < -1) : SemP mX8_picture 4 0 0 [.ref 0, .int x] w (Top (-1) (CI L b n m cd Q ik kn kc kQ fn fr fz tal R)) := by
  obtain ⟨tb, tc, tn, fc, ff, fs, ft, fu, fw, fy, fd, dc, dp, dq, ec, ep, eq, em, lr, wr, wf, wb, wn, gz, wc, ws, wa, pw, pf, pl, ta, rfl, ⟨s1, s2, s3, s4, s5, s6⟩, hB, hdc, hdp, hec, hep, hlr, hta, hwo⟩ := hC
  have hn : n ≤ 200 := Nat.le_trans s3 s4.1
  have hm : m ≤ 200 := s4.1
  have hkn : kn ≤ 200 := s5.1
  have hQn : dp n = Q n := hdp n s3
  have hVn : Vq (Q n) := s4.2.2.1 n s3
  refine semP_of (by decide) (Nat.le_of_ble_eq_true rfl) rfl ?_
  refine r_bipush (v := (nI 9)) dX8_picture_0 (by decide) ?_
  refine r_istore_n (ls' := [_, _, _, _]) dX8_picture_2 (by decide) rfl ?_
  refine r_iload_n dX8_picture_3 rfl ?_
  refine r_iconst (v := (-1)) dX8_picture_4 (by decide) ?_
  refine r_icmp_ge 10 dX8_picture_5 (by decide) (fun h5 => ?_) (fun h5 => ?_)
  · exact absurd h (ge_m1.mp h5)
  · refine r_pc 8 rfl ?_
    refine r_iconst (v := (-1)) dX8_picture_8 (by decide) ?_
    exact r_iretP dX8_picture_9 rfl ⟨rfl, _, _, _, _, _, _, _, _, _, _, _, _, _, _, _, _, _, _, _, _, _, _, _, _, _, _, _, _, _, _, _, rfl, ⟨⟨s1, s2, s3, s4, s5, s6⟩, hB, hdc, hdp, hec, hep, hlr, hta, hwo⟩⟩
theorem c_pic_m (hC : CI L b n m cd Q ik kn kc kQ fn fr fz tal R w) : SemP mX8_picture 4 0 0 [.ref 0, .int (-1)] w (Top (nI 36) (CI L b n m cd Q ik kn kc kQ fn fr fz tal R)) := by
  obtain ⟨tb, tc, tn, fc, ff, fs, ft, fu, fw, fy, fd, dc, dp, dq, ec, ep, eq, em, lr, wr, wf, wb, wn, gz, wc, ws, wa, pw, pf, pl, ta, rfl, ⟨s1, s2, s3, s4, s5, s6⟩, hB, hdc, hdp, hec, hep, hlr, hta, hwo⟩ := hC
  have hn : n ≤ 200 := Nat.le_trans s3 s4.1
  have hm : m ≤ 200 := s4.1
  have hkn : kn ≤ 200 := s5.1
  have hQn : dp n = Q n := hdp n s3
  have hVn : Vq (Q n) := s4.2.2.1 n s3
  refine semP_of (by decide) (Nat.le_of_ble_eq_true rfl) rfl ?_
  refine r_bipush (v := (nI 9)) dX8_picture_0 (by decide) ?_
  refine r_istore_n (ls' := [_, _, _, _]) dX8_picture_2 (by decide) rfl ?_
  refine r_iload_n dX8_picture_3 rfl ?_
  refine r_iconst (v := (-1)) dX8_picture_4 (by decide) ?_
  refine r_icmp_ge 10 dX8_picture_5 (by decide) (fun h5 => ?_) (fun h5 => ?_)
  · refine r_pc 10 rfl ?_
    refine r_iload_n dX8_picture_10 rfl ?_
    refine r_iconst (v := (-1)) dX8_picture_11 (by decide) ?_
    refine r_icmp_ne 19 dX8_picture_12 (by decide) (fun h12 => ?_) (fun h12 => ?_)
    · exact absurd rfl h12
    · refine r_pc 15 rfl ?_
      refine r_iload_n dX8_picture_15 rfl ?_
      refine r_iconst (v := (nI 4)) dX8_picture_16 (by decide) ?_
      refine r_imulN dX8_picture_17 ?_
      exact r_iretP dX8_picture_18 rfl ⟨rfl, _, _, _, _, _, _, _, _, _, _, _, _, _, _, _, _, _, _, _, _, _, _, _, _, _, _, _, _, _, _, _, rfl, ⟨⟨s1, s2, s3, s4, s5, s6⟩, hB, hdc, hdp, hec, hep, hlr, hta, hwo⟩⟩
  · exact absurd (by decide) h5
theorem c_pic_2 {i : Nat} (hC : CI L b n m cd Q ik kn kc kQ fn fr fz tal R w) (h : 36 ≤ i) (hi : i < 2 ^ 31) : SemP mX8_picture 4 0 0 [.ref 0, .int (nI i)] w (Top (-2) (CI L b n m cd Q ik kn kc kQ fn fr fz tal R)) := by
  obtain ⟨tb, tc, tn, fc, ff, fs, ft, fu, fw, fy, fd, dc, dp, dq, ec, ep, eq, em, lr, wr, wf, wb, wn, gz, wc, ws, wa, pw, pf, pl, ta, rfl, ⟨s1, s2, s3, s4, s5, s6⟩, hB, hdc, hdp, hec, hep, hlr, hta, hwo⟩ := hC
  have hn : n ≤ 200 := Nat.le_trans s3 s4.1
  have hm : m ≤ 200 := s4.1
  have hkn : kn ≤ 200 := s5.1
  have hQn : dp n = Q n := hdp n s3
  have hVn : Vq (Q n) := s4.2.2.1 n s3
  refine semP_of (by decide) (Nat.le_of_ble_eq_true rfl) rfl ?_
  refine r_bipush (v := (nI 9)) dX8_picture_0 (by decide) ?_
  refine r_istore_n (ls' := [_, _, _, _]) dX8_picture_2 (by decide) rfl ?_
  refine r_iload_n dX8_picture_3 rfl ?_
  refine r_iconst (v := (-1)) dX8_picture_4 (by decide) ?_
  refine r_icmp_ge 10 dX8_picture_5 (by decide) (fun h5 => ?_) (fun h5 => ?_)
  · refine r_pc 10 rfl ?_
    refine r_iload_n dX8_picture_10 rfl ?_
    refine r_iconst (v := (-1)) dX8_picture_11 (by decide) ?_
    refine r_icmp_ne 19 dX8_picture_12 (by decide) (fun h12 => ?_) (fun h12 => ?_)
    · refine r_pc 19 rfl ?_
      refine r_iload_n dX8_picture_19 rfl ?_
      refine r_iload_n dX8_picture_20 rfl ?_
      refine r_iconst (v := (nI 4)) dX8_picture_21 (by decide) ?_
      refine r_imulN dX8_picture_22 ?_
      refine r_icmp_ltN 29 dX8_picture_23 (by decide) (by omega) (by omega) (fun h23 => ?_) (fun h23 => ?_)
      · exact absurd h23 (by omega)
      · refine r_pc 26 rfl ?_
        refine r_bipush (v := (-2)) dX8_picture_26 (by decide) ?_
        exact r_iretP dX8_picture_28 rfl ⟨rfl, _, _, _, _, _, _, _, _, _, _, _, _, _, _, _, _, _, _, _, _, _, _, _, _, _, _, _, _, _, _, _, rfl, ⟨⟨s1, s2, s3, s4, s5, s6⟩, hB, hdc, hdp, hec, hep, hlr, hta, hwo⟩⟩
    · exact absurd h12 (nI_m1 (by omega))
  · exact absurd (ge_m1.mpr (nI_ge_m1 _ (by omega))) h5
theorem c_pic_n {i : Nat} (hC : CI L b n m cd Q ik kn kc kQ fn fr fz tal R w) (h : i < 36) (h8 : i % 9 = 8) : SemP mX8_picture 4 0 0 [.ref 0, .int (nI i)] w (Top (nI 10) (CI L b n m cd Q ik kn kc kQ fn fr fz tal R)) := by
  obtain ⟨tb, tc, tn, fc, ff, fs, ft, fu, fw, fy, fd, dc, dp, dq, ec, ep, eq, em, lr, wr, wf, wb, wn, gz, wc, ws, wa, pw, pf, pl, ta, rfl, ⟨s1, s2, s3, s4, s5, s6⟩, hB, hdc, hdp, hec, hep, hlr, hta, hwo⟩ := hC
  have hn : n ≤ 200 := Nat.le_trans s3 s4.1
  have hm : m ≤ 200 := s4.1
  have hkn : kn ≤ 200 := s5.1
  have hQn : dp n = Q n := hdp n s3
  have hVn : Vq (Q n) := s4.2.2.1 n s3
  refine semP_of (by decide) (Nat.le_of_ble_eq_true rfl) rfl ?_
  refine r_bipush (v := (nI 9)) dX8_picture_0 (by decide) ?_
  refine r_istore_n (ls' := [_, _, _, _]) dX8_picture_2 (by decide) rfl ?_
  refine r_iload_n dX8_picture_3 rfl ?_
  refine r_iconst (v := (-1)) dX8_picture_4 (by decide) ?_
  refine r_icmp_ge 10 dX8_picture_5 (by decide) (fun h5 => ?_) (fun h5 => ?_)
  · refine r_pc 10 rfl ?_
    refine r_iload_n dX8_picture_10 rfl ?_
    refine r_iconst (v := (-1)) dX8_picture_11 (by decide) ?_
    refine r_icmp_ne 19 dX8_picture_12 (by decide) (fun h12 => ?_) (fun h12 => ?_)
    · refine r_pc 19 rfl ?_
      refine r_iload_n dX8_picture_19 rfl ?_
      refine r_iload_n dX8_picture_20 rfl ?_
      refine r_iconst (v := (nI 4)) dX8_picture_21 (by decide) ?_
      refine r_imulN dX8_picture_22 ?_
      refine r_icmp_ltN 29 dX8_picture_23 (by decide) (by omega) (by omega) (fun h23 => ?_) (fun h23 => ?_)
      · refine r_pc 29 rfl ?_
        refine r_iload_n dX8_picture_29 rfl ?_
        refine r_iload_n dX8_picture_30 rfl ?_
        refine r_iremN dX8_picture_31 (by omega) (by decide) (by decide) ?_
        refine r_istore_n (ls' := [_, _, _, _]) dX8_picture_32 (by decide) rfl ?_
        refine r_iload_n dX8_picture_33 rfl ?_
        refine r_pc 34 rfl ?_
        refine r_bipush (v := (nI 8)) dX8_picture_34 (by decide) ?_
        refine r_icmp_neN 42 dX8_picture_36 (by decide) (by omega) (by omega) (fun h36 => ?_) (fun h36 => ?_)
        · exact absurd h8 h36
        · refine r_pc 39 rfl ?_
          refine r_bipush (v := (nI 10)) dX8_picture_39 (by decide) ?_
          exact r_iretP dX8_picture_41 rfl ⟨rfl, _, _, _, _, _, _, _, _, _, _, _, _, _, _, _, _, _, _, _, _, _, _, _, _, _, _, _, _, _, _, _, rfl, ⟨⟨s1, s2, s3, s4, s5, s6⟩, hB, hdc, hdp, hec, hep, hlr, hta, hwo⟩⟩
      · exact absurd h23 (by omega)
    · exact absurd h12 (nI_m1 (by omega))
  · exact absurd (ge_m1.mpr (nI_ge_m1 _ (by omega))) h5
theorem c_pic_1 {i : Nat} (hC : CI L b n m cd Q ik kn kc kQ fn fr fz tal R w) (h : i < 36) (h8 : ¬ i % 9 = 8) : SemP mX8_picture 4 0 0 [.ref 0, .int (nI i)] w (Top (nI (sgn (sqc (Q n)) (sqf (Q n)) (4 * (3 - i / 9) + i % 9 / 2) (decide (i % 9 % 2 = 0)))) (CI L b n m cd Q ik kn kc kQ fn fr fz tal R)) := by
  obtain ⟨tb, tc, tn, fc, ff, fs, ft, fu, fw, fy, fd, dc, dp, dq, ec, ep, eq, em, lr, wr, wf, wb, wn, gz, wc, ws, wa, pw, pf, pl, ta, rfl, ⟨s1, s2, s3, s4, s5, s6⟩, hB, hdc, hdp, hec, hep, hlr, hta, hwo⟩ := hC
  have hn : n ≤ 200 := Nat.le_trans s3 s4.1
  have hm : m ≤ 200 := s4.1
  have hkn : kn ≤ 200 := s5.1
  have hQn : dp n = Q n := hdp n s3
  have hVn : Vq (Q n) := s4.2.2.1 n s3
  refine semP_of (by decide) (Nat.le_of_ble_eq_true rfl) rfl ?_
  have hx : 4 * (3 - i / 9) + i % 9 / 2 < 16 := by omega
  by_cases q : i % 9 % 2 = 0
  · rw [decide_eq_true q]
    refine r_bipush (v := (nI 9)) dX8_picture_0 (by decide) ?_
    refine r_istore_n (ls' := [_, _, _, _]) dX8_picture_2 (by decide) rfl ?_
    refine r_iload_n dX8_picture_3 rfl ?_
    refine r_iconst (v := (-1)) dX8_picture_4 (by decide) ?_
    refine r_icmp_ge 10 dX8_picture_5 (by decide) (fun h5 => ?_) (fun h5 => ?_)
    · refine r_pc 10 rfl ?_
      refine r_iload_n dX8_picture_10 rfl ?_
      refine r_iconst (v := (-1)) dX8_picture_11 (by decide) ?_
      refine r_icmp_ne 19 dX8_picture_12 (by decide) (fun h12 => ?_) (fun h12 => ?_)
      · refine r_pc 19 rfl ?_
        refine r_iload_n dX8_picture_19 rfl ?_
        refine r_iload_n dX8_picture_20 rfl ?_
        refine r_iconst (v := (nI 4)) dX8_picture_21 (by decide) ?_
        refine r_imulN dX8_picture_22 ?_
        refine r_icmp_ltN 29 dX8_picture_23 (by decide) (by omega) (by omega) (fun h23 => ?_) (fun h23 => ?_)
        · refine r_pc 29 rfl ?_
          refine r_iload_n dX8_picture_29 rfl ?_
          refine r_iload_n dX8_picture_30 rfl ?_
          refine r_iremN dX8_picture_31 (by omega) (by decide) (by decide) ?_
          refine r_istore_n (ls' := [_, _, _, _]) dX8_picture_32 (by decide) rfl ?_
          refine r_iload_n dX8_picture_33 rfl ?_
          refine r_pc 34 rfl ?_
          refine r_bipush (v := (nI 8)) dX8_picture_34 (by decide) ?_
          refine r_icmp_neN 42 dX8_picture_36 (by decide) (by omega) (by omega) (fun h36 => ?_) (fun h36 => ?_)
          · refine r_pc 42 rfl ?_
            refine r_aload_n dX8_picture_42 rfl ?_
            refine r_get dX8_picture_43 fX8_19 rfl rfl ?_
            refine r_aload_n dX8_picture_46 rfl ?_
            refine r_get dX8_picture_47 fX8_26 rfl rfl ?_
            refine r_cV dX8_picture_50 (s_latest hn) lX8_87 rfl rfl rfl (by decide) ⟨Nat.le_refl _, Nat.le_refl _⟩ (Nat.le_of_ble_eq_true rfl) ?_
            refine r_pc 53 rfl ?_
            rw [hQn]
            refine r_cVv dX8_picture_53 (s_load _) lX8_91 rfl rfl rfl (by decide) ⟨Nat.le_refl _, Nat.le_refl _⟩ (Nat.le_of_ble_eq_true rfl) ?_
            refine r_aload_n dX8_picture_56 rfl ?_
            refine r_get dX8_picture_57 fX8_19 rfl rfl ?_
            refine r_iconst (v := (nI 4)) dX8_picture_60 (by decide) ?_
            refine r_iconst (v := (nI 3)) dX8_picture_61 (by decide) ?_
            refine r_pc 62 rfl ?_
            refine r_iload_n dX8_picture_62 rfl ?_
            refine r_iload_n dX8_picture_63 rfl ?_
            refine r_idivN dX8_picture_64 (by omega) (by decide) (by decide) ?_
            refine r_isubN dX8_picture_65 (by omega) ?_
            refine r_imulN dX8_picture_66 ?_
            refine r_pc 67 rfl ?_
            refine r_iload_n dX8_picture_67 rfl ?_
            refine r_iconst (v := (nI 2)) dX8_picture_68 (by decide) ?_
            refine r_idivN dX8_picture_69 (by omega) (by decide) (by decide) ?_
            refine r_iaddN dX8_picture_70 ?_
            refine r_iload_n dX8_picture_71 rfl ?_
            refine r_pc 72 rfl ?_
            refine r_iconst (v := (nI 2)) dX8_picture_72 (by decide) ?_
            refine r_iremN dX8_picture_73 (by omega) (by decide) (by decide) ?_
            refine r_if_ne 81 dX8_picture_74 (by decide) (fun h74 => ?_) (fun h74 => ?_)
            · exact absurd (by rw [q]; rfl) h74
            · refine r_pc 77 rfl ?_
              refine r_iconst (v := (nI 1)) dX8_picture_77 (by decide) ?_
              refine r_goto 82 dX8_picture_78 (by decide) ?_
              refine r_cV dX8_picture_82 (s_signOf (b := true) hx (Sq_load _) (Sd_load _)) lX8_195 rfl rfl rfl (by decide) ⟨Nat.le_refl _, Nat.le_refl _⟩ (Nat.le_of_ble_eq_true rfl) ?_
              exact r_iretP dX8_picture_85 rfl ⟨rfl, _, _, _, _, _, _, _, _, _, _, _, _, _, _, _, _, _, _, _, _, _, _, _, _, _, _, _, _, _, _, _, rfl, ⟨⟨s1, s2, s3, s4, s5, s6⟩, hB, hdc, hdp, hec, hep, hlr, hta, hwo⟩⟩
          · exact absurd h36 h8
        · exact absurd h23 (by omega)
      · exact absurd h12 (nI_m1 (by omega))
    · exact absurd (ge_m1.mpr (nI_ge_m1 _ (by omega))) h5
  · rw [decide_eq_false q]
    refine r_bipush (v := (nI 9)) dX8_picture_0 (by decide) ?_
    refine r_istore_n (ls' := [_, _, _, _]) dX8_picture_2 (by decide) rfl ?_
    refine r_iload_n dX8_picture_3 rfl ?_
    refine r_iconst (v := (-1)) dX8_picture_4 (by decide) ?_
    refine r_icmp_ge 10 dX8_picture_5 (by decide) (fun h5 => ?_) (fun h5 => ?_)
    · refine r_pc 10 rfl ?_
      refine r_iload_n dX8_picture_10 rfl ?_
      refine r_iconst (v := (-1)) dX8_picture_11 (by decide) ?_
      refine r_icmp_ne 19 dX8_picture_12 (by decide) (fun h12 => ?_) (fun h12 => ?_)
      · refine r_pc 19 rfl ?_
        refine r_iload_n dX8_picture_19 rfl ?_
        refine r_iload_n dX8_picture_20 rfl ?_
        refine r_iconst (v := (nI 4)) dX8_picture_21 (by decide) ?_
        refine r_imulN dX8_picture_22 ?_
        refine r_icmp_ltN 29 dX8_picture_23 (by decide) (by omega) (by omega) (fun h23 => ?_) (fun h23 => ?_)
        · refine r_pc 29 rfl ?_
          refine r_iload_n dX8_picture_29 rfl ?_
          refine r_iload_n dX8_picture_30 rfl ?_
          refine r_iremN dX8_picture_31 (by omega) (by decide) (by decide) ?_
          refine r_istore_n (ls' := [_, _, _, _]) dX8_picture_32 (by decide) rfl ?_
          refine r_iload_n dX8_picture_33 rfl ?_
          refine r_pc 34 rfl ?_
          refine r_bipush (v := (nI 8)) dX8_picture_34 (by decide) ?_
          refine r_icmp_neN 42 dX8_picture_36 (by decide) (by omega) (by omega) (fun h36 => ?_) (fun h36 => ?_)
          · refine r_pc 42 rfl ?_
            refine r_aload_n dX8_picture_42 rfl ?_
            refine r_get dX8_picture_43 fX8_19 rfl rfl ?_
            refine r_aload_n dX8_picture_46 rfl ?_
            refine r_get dX8_picture_47 fX8_26 rfl rfl ?_
            refine r_cV dX8_picture_50 (s_latest hn) lX8_87 rfl rfl rfl (by decide) ⟨Nat.le_refl _, Nat.le_refl _⟩ (Nat.le_of_ble_eq_true rfl) ?_
            refine r_pc 53 rfl ?_
            rw [hQn]
            refine r_cVv dX8_picture_53 (s_load _) lX8_91 rfl rfl rfl (by decide) ⟨Nat.le_refl _, Nat.le_refl _⟩ (Nat.le_of_ble_eq_true rfl) ?_
            refine r_aload_n dX8_picture_56 rfl ?_
            refine r_get dX8_picture_57 fX8_19 rfl rfl ?_
            refine r_iconst (v := (nI 4)) dX8_picture_60 (by decide) ?_
            refine r_iconst (v := (nI 3)) dX8_picture_61 (by decide) ?_
            refine r_pc 62 rfl ?_
            refine r_iload_n dX8_picture_62 rfl ?_
            refine r_iload_n dX8_picture_63 rfl ?_
            refine r_idivN dX8_picture_64 (by omega) (by decide) (by decide) ?_
            refine r_isubN dX8_picture_65 (by omega) ?_
            refine r_imulN dX8_picture_66 ?_
            refine r_pc 67 rfl ?_
            refine r_iload_n dX8_picture_67 rfl ?_
            refine r_iconst (v := (nI 2)) dX8_picture_68 (by decide) ?_
            refine r_idivN dX8_picture_69 (by omega) (by decide) (by decide) ?_
            refine r_iaddN dX8_picture_70 ?_
            refine r_iload_n dX8_picture_71 rfl ?_
            refine r_pc 72 rfl ?_
            refine r_iconst (v := (nI 2)) dX8_picture_72 (by decide) ?_
            refine r_iremN dX8_picture_73 (by omega) (by decide) (by decide) ?_
            refine r_if_ne 81 dX8_picture_74 (by decide) (fun h74 => ?_) (fun h74 => ?_)
            · refine r_pc 81 rfl ?_
              refine r_iconst (v := (nI 0)) dX8_picture_81 (by decide) ?_
              refine r_cV dX8_picture_82 (s_signOf (b := false) hx (Sq_load _) (Sd_load _)) lX8_195 rfl rfl rfl (by decide) ⟨Nat.le_refl _, Nat.le_refl _⟩ (Nat.le_of_ble_eq_true rfl) ?_
              exact r_iretP dX8_picture_85 rfl ⟨rfl, _, _, _, _, _, _, _, _, _, _, _, _, _, _, _, _, _, _, _, _, _, _, _, _, _, _, _, _, _, _, _, rfl, ⟨⟨s1, s2, s3, s4, s5, s6⟩, hB, hdc, hdp, hec, hep, hlr, hta, hwo⟩⟩
            · exact absurd (nI_z (by omega) h74) q
          · exact absurd h36 h8
        · exact absurd h23 (by omega)
      · exact absurd h12 (nI_m1 (by omega))
    · exact absurd (ge_m1.mpr (nI_ge_m1 _ (by omega))) h5
end C5
