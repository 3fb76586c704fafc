/-! ===== the reference: text ===== -/
theorem putL_nil (f : Nat → Int32) : putL f [] = f := by
  funext j
  simp [putL]
section R12
variable {rc rf ro rt ru rm rg : Nat → Int32} {rp rq : Int32} {ry rl : Nat → Int32} {rn ra : Int32} {rw rk : Nat → Int64} {rx rz rd : Nat → Int32} {rM rU rK : Int32} {rT rR : Nat → Int32} {rL rN rA rF : Int32} {rC : Nat → Int64} {rO rB rY rP : Nat → Int32} {rb : Int32}
variable {R : List AE}
theorem m_prints {p : List Nat} {x : Nat} (hp : p.length < 4000) : Sem mX9_prints 1 0 0 [.ref 100, .int (nI x)] (R, mW rc rf ro rt ru rm rg rp rq ry rl rn ra rw rk rx rz rd rM rU rK rT rR rL rN rA rF rC rO rB rY (putL rP p) (nI p.length)) none (R, mW rc rf ro rt ru rm rg rp rq ry rl rn ra rw rk rx rz rd rM rU rK rT rR rL rN rA rF rC rO rB rY (putL rP (p ++ [x])) (nI (p ++ [x]).length)) := by
  refine sem_of (by decide) (Nat.le_of_ble_eq_true rfl) rfl ?_
  have e : (p ++ [x]).length = p.length + 1 := by simp
  rw [e, ← putL_push]
  refine r_aload_n dX9_prints_0 rfl ?_
  refine r_get dX9_prints_1 fX9_127 rfl rfl ?_
  refine r_aload_n dX9_prints_4 rfl ?_
  refine r_get dX9_prints_5 fX9_285 rfl rfl ?_
  refine r_iload_n dX9_prints_8 rfl ?_
  refine r_pc 9 rfl ?_
  refine r_iast (w2 := (_, mW _ _ _ _ _ _ _ _ _ _ _ _ _ _ _ _ _ _ _ _ _ _ _ _ _ _ _ _ _ _ _ _ _)) dX9_prints_9 rfl rfl (by omega) (by decide) rfl ?_
  refine r_aload_n dX9_prints_10 rfl ?_
  refine r_dup dX9_prints_11 rfl ?_
  refine r_get dX9_prints_12 fX9_285 rfl rfl ?_
  refine r_iconst (v := (nI 1)) dX9_prints_15 (by decide) ?_
  refine r_pc 16 rfl ?_
  refine r_iaddN dX9_prints_16 ?_
  refine r_put (w2 := (_, mW _ _ _ _ _ _ _ _ _ _ _ _ _ _ _ _ _ _ _ _ _ _ _ _ _ _ _ _ _ _ _ _ _)) dX9_prints_17 fX9_285 rfl rfl (Nat.le_of_ble_eq_true rfl) (fun _ => rfl) (fun _ => rfl) rfl ?_
  exact r_vret dX9_prints_20 rfl rfl rfl
theorem m_printsS {p : List Nat} {i : Nat} (hi : i < 21) (hp : p.length + (zs i).length < 4000) : Sem mX9_prints_ 5 0 0 [.ref 100, .ref (2000 + i)] (R, mW rc rf ro rt ru rm rg rp rq ry rl rn ra rw rk rx rz rd rM rU rK rT rR rL rN rA rF rC rO rB rY (putL rP p) (nI p.length)) none (R, mW rc rf ro rt ru rm rg rp rq ry rl rn ra rw rk rx rz rd rM rU rK rT rR rL rN rA rF rC rO rB rY (putL rP (p ++ zs i)) (nI (p ++ zs i).length)) := by
  refine sem_of (by decide) (Nat.le_of_ble_eq_true rfl) rfl ?_
  have hq := zs_at i hi
  have hq8 := (zt_small hq).1
  generalize hw0 : (R, mW rc rf ro rt ru rm rg rp rq ry rl rn ra rw rk rx rz rd rM rU rK rT rR rL rN rA rF rC rO rB rY (putL rP p) (nI p.length)) = w0
  have Lp : ∀ (m j : Nat) (p2 : List Nat), j + m = (zs i).length → p2 = p ++ (zs i).take j → Rn mX9_prints_ 5 0 0 w0 none (R, mW rc rf ro rt ru rm rg rp rq ry rl rn ra rw rk rx rz rd rM rU rK rT rR rL rN rA rF rC rO rB rY (putL rP (p ++ zs i)) (nI (p ++ zs i).length)) 0 0 2 [some (.ref 100), some (.ref (2000 + i)), some (.int (nI j))] [] (R, mW rc rf ro rt ru rm rg rp rq ry rl rn ra rw rk rx rz rd rM rU rK rT rR rL rN rA rF rC rO rB rY (putL rP p2) (nI p2.length)) := by
    intro m
    induction m with
    | zero =>
      intro j p2 hj hp2
      have : j = (zs i).length := by omega
      rw [this, List.take_length] at hp2
      subst hp2
      refine r_iload_n dX9_prints__2 rfl ?_
      refine r_aload_n dX9_prints__3 rfl ?_
      refine r_cT dX9_prints__4 hq (s_strlen _ hq) lX9_211 rfl rfl (by decide) ⟨Nat.le_refl _, Nat.le_refl _⟩ (Nat.le_of_ble_eq_true rfl) ?_
      refine r_icmp_geN 25 dX9_prints__7 (by decide) (by omega) (by omega) (fun h7 => ?_) (fun h7 => ?_)
      · refine r_pc 25 rfl ?_
        exact r_vret dX9_prints__25 rfl rfl rfl
      · exact absurd h7 (by omega)
    | succ m ih =>
      intro j p2 hj hp2
      have hjl : j < (zs i).length := by omega
      have e1 : (zs i).take (j + 1) = (zs i).take j ++ [(zs i).getD j 0] := by
        rw [List.take_add_one, List.getElem?_eq_getElem hjl, List.getD_eq_getElem?_getD, List.getElem?_eq_getElem hjl]
        rfl
      have hl2 : p2.length < 4000 := by
        rw [hp2, List.length_append, List.length_take]
        omega
      have ih := ih (j + 1) (p2 ++ [(zs i).getD j 0]) (by omega) (by rw [e1, hp2, List.append_assoc])
      refine r_iload_n dX9_prints__2 rfl ?_
      refine r_aload_n dX9_prints__3 rfl ?_
      refine r_cT dX9_prints__4 hq (s_strlen _ hq) lX9_211 rfl rfl (by decide) ⟨Nat.le_refl _, Nat.le_refl _⟩ (Nat.le_of_ble_eq_true rfl) ?_
      refine r_icmp_geN 25 dX9_prints__7 (by decide) (by omega) (by omega) (fun h7 => ?_) (fun h7 => ?_)
      · exact absurd h7 (by omega)
      · refine r_pc 10 rfl ?_
        refine r_aload_n dX9_prints__10 rfl ?_
        refine r_aload_n dX9_prints__11 rfl ?_
        refine r_iload_n dX9_prints__12 rfl ?_
        refine r_cT dX9_prints__13 hq (s_charAt _ hq hjl) lX9_215 rfl rfl (by decide) ⟨Nat.le_refl _, Nat.le_refl _⟩ (Nat.le_of_ble_eq_true rfl) ?_
        refine r_cVv dX9_prints__16 (m_prints hl2) lX9_288 rfl rfl rfl (by decide) ⟨Nat.le_refl _, Nat.le_refl _⟩ (Nat.le_of_ble_eq_true rfl) ?_
        refine r_pc 19 rfl ?_
        refine r_inc1 (ls' := [_, _, _]) dX9_prints__19 (by decide) rfl rfl ?_
        refine r_goto 2 dX9_prints__22 (by decide) ?_
        refine r_pc 2 rfl ?_
        exact ih
  subst hw0
  refine r_iconst (v := (nI 0)) dX9_prints__0 (by decide) ?_
  refine r_istore_n (ls' := [_, _, _]) dX9_prints__1 (by decide) rfl ?_
  refine r_pc 2 rfl ?_
  exact Lp _ 0 p (Nat.zero_add _) (by simp)
end R12
section D6
variable {R : List AE} {w : WD} {L : Nat} {b : Nat → Nat} {n m : Nat} {cd : Nat → Nat} {Q : Nat → Int64} {ik : Bool} {kn : Nat} {kc : Nat → Nat} {kQ : Nat → Int64} {fn : Nat} {fr : Nat → Int32} {fz : Int32} {tal : Nat → Int32}
theorem d_text_b {x : Int32} (hR : RI L b n m cd Q ik kn kc kQ fn fr fz tal R w) (h : x < -1) : SemP mX9_text 9 0 0 [.ref 100, .int x] w (Top (-1) (RI L b n m cd Q ik kn kc kQ fn fr fz tal R)) := by
  obtain ⟨rc, rf, ro, rt, ru, rm, rg, rp, rq, ry, rl, wt, rk, rx, rz, rd, rT, rR, rN, rA, rF, rC, rO, rB, rY, rP, rb, rfl, ⟨s1, s2, s3, s4, s5, s6⟩, hB, hrx, hrw, hrz, hrk, hrl, hrd⟩ := hR
  have hm : m ≤ 200 := s4.1
  have hkn : kn ≤ 200 := s5.1
  have hL : L ≤ 120 := s1
  have s3 : n ≤ m := s3
  have hn : n ≤ 200 := Nat.le_trans s3 s4.1
  have s6 : fn ≤ 8 := s6
  have hrx : ∀ j, j < m → rx j = nI (cd j) := hrx
  have hrw : ∀ j, j ≤ m → wt j = bt (Q j) := hrw
  have hrl : ∀ j, j < fn → rl j = fr j := hrl
  have hrd : ∀ j, j < 12 → rd j = tal j := hrd
  have hQn : wt n = bt (Q n) := hrw n s3
  have hVn : Vq (Q n) := s4.2.2.1 n s3
  refine semP_of (by decide) (Nat.le_of_ble_eq_true rfl) rfl ?_
  refine r_iload_n dX9_text_0 rfl ?_
  refine r_iconst (v := (-1)) dX9_text_1 (by decide) ?_
  refine r_icmp_ge 7 dX9_text_2 (by decide) (fun h2 => ?_) (fun h2 => ?_)
  · exact absurd h2 (fun z => ge_m1.mp z h)
  · refine r_pc 5 rfl ?_
    refine r_iconst (v := (-1)) dX9_text_5 (by decide) ?_
    exact r_iretP dX9_text_6 rfl ⟨rfl, _, _, _, _, _, _, _, _, _, _, _, _, _, _, _, _, _, _, _, _, _, _, _, _, _, _, _, rfl, ⟨⟨s1, s2, s3, s4, s5, s6⟩, hB, hrx, hrw, hrz, hrk, hrl, hrd⟩⟩
theorem d_text_m (hR : RI L b n m cd Q ik kn kc kQ fn fr fz tal R w) : SemP mX9_text 9 0 0 [.ref 100, .int (-1)] w (Top (nI (txt cd n).length) (RI L b n m cd Q ik kn kc kQ fn fr fz tal R)) := by
  obtain ⟨rc, rf, ro, rt, ru, rm, rg, rp, rq, ry, rl, wt, rk, rx, rz, rd, rT, rR, rN, rA, rF, rC, rO, rB, rY, rP, rb, rfl, ⟨s1, s2, s3, s4, s5, s6⟩, hB, hrx, hrw, hrz, hrk, hrl, hrd⟩ := hR
  have hm : m ≤ 200 := s4.1
  have hkn : kn ≤ 200 := s5.1
  have hL : L ≤ 120 := s1
  have s3 : n ≤ m := s3
  have hn : n ≤ 200 := Nat.le_trans s3 s4.1
  have s6 : fn ≤ 8 := s6
  have hrx : ∀ j, j < m → rx j = nI (cd j) := hrx
  have hrw : ∀ j, j ≤ m → wt j = bt (Q j) := hrw
  have hrl : ∀ j, j < fn → rl j = fr j := hrl
  have hrd : ∀ j, j < 12 → rd j = tal j := hrd
  have hQn : wt n = bt (Q n) := hrw n s3
  have hVn : Vq (Q n) := s4.2.2.1 n s3
  refine semP_of (by decide) (Nat.le_of_ble_eq_true rfl) rfl ?_
  have hcd := s4.2.1
  have hT : (txt cd n).length ≤ 3600 := dtx_len (fun j hj => hcd j (by omega)) 200 0
  have hTe : txt cd n = dtx cd (fun j => nI (cd j)) n 200 0 := rfl
  have hcx : ∀ j, j < n → rx j = nI (cd j) := fun j hj => hrx j (by omega)
  generalize hdc : (fun j => nI (cd j)) = dc at hTe
  have hdj : ∀ j, dc j = nI (cd j) := fun j => by rw [← hdc]
  generalize txt cd n = T at hT hTe ⊢
  generalize hw0 : (R, mW rc rf ro rt ru rm rg rp rq ry rl (nI fn) (fz) (wt) rk rx rz rd (nI n) (nI (m - n)) (rkI ik kn) rT rR (nI L) rN rA rF rC rO rB rY rP rb) = w0
  have F : ∀ (y2 y3 : Option Value), Rp mX9_text 9 0 0 w0 (Top (nI T.length) (RI L b n m cd Q ik kn kc kQ fn fr fz tal R)) 0 0 151 [some (.ref 100), some (.int (-1)), y2, y3] [] (R, mW rc rf ro rt ru rm rg rp rq ry rl (nI fn) (fz) (wt) rk rx rz rd (nI n) (nI (m - n)) (rkI ik kn) rT rR (nI L) rN rA rF rC rO rB rY (putL rP (T)) (nI (T).length)) := by
    intro y2 y3
    refine r_iload_n dX9_text_151 rfl ?_
    refine r_if_ge 162 dX9_text_152 (by decide) (fun h152 => ?_) (fun h152 => ?_)
    · exact absurd h152 (by decide)
    · refine r_pc 155 rfl ?_
      refine r_aload_n dX9_text_155 rfl ?_
      refine r_get dX9_text_156 fX9_285 rfl rfl ?_
      refine r_goto 181 dX9_text_159 (by decide) ?_
      exact r_iretP dX9_text_181 rfl ⟨rfl, _, _, _, _, _, _, _, _, _, _, _, _, _, _, _, _, _, _, _, _, _, _, _, _, _, _, _, rfl, ⟨⟨s1, s2, s3, s4, s5, s6⟩, hB, hrx, hrw, hrz, hrk, hrl, hrd⟩⟩
  have Lp : ∀ (f i : Nat) (p : List Nat) (y3 : Option Int32), n ≤ i + f → i < 2 ^ 30 → p ++ dtx cd dc n f i = T → Rp mX9_text 9 0 0 w0 (Top (nI T.length) (RI L b n m cd Q ik kn kc kQ fn fr fz tal R)) 0 0 14 [some (.ref 100), some (.int (-1)), some (.int (nI i)), y3.map .int] [] (R, mW rc rf ro rt ru rm rg rp rq ry rl (nI fn) (fz) (wt) rk rx rz rd (nI n) (nI (m - n)) (rkI ik kn) rT rR (nI L) rN rA rF rC rO rB rY (putL rP (p)) (nI (p).length)) := by
    intro f
    induction f with
    | zero =>
      intro i p y3 hi hi2 he
      have he : p = T := by rw [← he]; simp [dtx]
      subst he
      refine r_iload_n dX9_text_14 rfl ?_
      refine r_aload_n dX9_text_15 rfl ?_
      refine r_get dX9_text_16 fX9_144 rfl rfl ?_
      refine r_icmp_geN 151 dX9_text_19 (by decide) (by omega) (by omega) (fun h19 => ?_) (fun h19 => ?_)
      · refine r_pc 151 rfl ?_
        refine r_pc 151 rfl ?_
        exact F _ _
      · exact absurd h19 (by omega)
    | succ f ih =>
      intro i p y3 hi hi2 he
      unfold dtx at he
      by_cases hin : i < n
      · rw [if_pos hin] at he
        have ei : rx i = nI (cd i) := hcx i hin
        obtain ⟨c1, c2⟩ := hcd i (by omega)
        obtain ⟨q1, q2⟩ := sameN_at dc n i
        generalize ht : sameN dc n i = t at he q1 q2
        generalize hD : dtx cd dc n f (i + t) = D at he
        have S144 : ∀ p, p ++ D = T → Rp mX9_text 9 0 0 w0 (Top (nI T.length) (RI L b n m cd Q ik kn kc kQ fn fr fz tal R)) 0 0 144 [some (.ref 100), some (.int (-1)), some (.int (nI i)), some (.int (nI t))] [] (R, mW rc rf ro rt ru rm rg rp rq ry rl (nI fn) (fz) (wt) rk rx rz rd (nI n) (nI (m - n)) (rkI ik kn) rT rR (nI L) rN rA rF rC rO rB rY (putL rP (p)) (nI (p).length)) := by
          intro p he
          rw [← hD] at he
          have ih := ih (i + t) p (some (nI t)) (by omega) (by omega) he
          refine r_iload_n dX9_text_144 rfl ?_
          refine r_iload_n dX9_text_145 rfl ?_
          refine r_iaddN dX9_text_146 ?_
          refine r_istore_n (ls' := [_, _, _, _]) dX9_text_147 (by decide) rfl ?_
          refine r_goto 14 dX9_text_148 (by decide) ?_
          refine r_pc 14 rfl ?_
          exact ih
        have S125 : ∀ p, p ++ ((if t ≤ 1 then [] else [32, 48 + t]) ++ D) = T → Rp mX9_text 9 0 0 w0 (Top (nI T.length) (RI L b n m cd Q ik kn kc kQ fn fr fz tal R)) 0 0 125 [some (.ref 100), some (.int (-1)), some (.int (nI i)), some (.int (nI t))] [] (R, mW rc rf ro rt ru rm rg rp rq ry rl (nI fn) (fz) (wt) rk rx rz rd (nI n) (nI (m - n)) (rkI ik kn) rT rR (nI L) rN rA rF rC rO rB rY (putL rP (p)) (nI (p).length)) := by
          intro p he
          by_cases ht1 : t ≤ 1
          · rw [if_pos ht1, List.nil_append] at he
            have S := S144 p he
            refine r_iload_n dX9_text_125 rfl ?_
            refine r_iconst (v := (nI 1)) dX9_text_126 (by decide) ?_
            refine r_icmp_leN 144 dX9_text_127 (by decide) (by omega) (by omega) (fun h127 => ?_) (fun h127 => ?_)
            · refine r_pc 144 rfl ?_
              refine r_pc 144 rfl ?_
              exact S
            · exact absurd h127 (by omega)
          · rw [if_neg ht1] at he
            have hl := congrArg List.length he
            simp at hl
            have S := S144 (p ++ [32] ++ [48 + t]) (by rw [← he]; simp)
            have hl1 : p.length < 4000 := by omega
            have hl2 : (p ++ [32]).length < 4000 := by simp; omega
            refine r_iload_n dX9_text_125 rfl ?_
            refine r_iconst (v := (nI 1)) dX9_text_126 (by decide) ?_
            refine r_icmp_leN 144 dX9_text_127 (by decide) (by omega) (by omega) (fun h127 => ?_) (fun h127 => ?_)
            · exact absurd h127 ht1
            · refine r_pc 130 rfl ?_
              refine r_aload_n dX9_text_130 rfl ?_
              refine r_bipush (v := (nI 32)) dX9_text_131 (by decide) ?_
              refine r_cVv dX9_text_133 (m_prints hl1) lX9_288 rfl rfl rfl (by decide) ⟨Nat.le_refl _, Nat.le_refl _⟩ (Nat.le_of_ble_eq_true rfl) ?_
              refine r_aload_n dX9_text_136 rfl ?_
              refine r_bipush (v := (nI 48)) dX9_text_137 (by decide) ?_
              refine r_pc 139 rfl ?_
              refine r_iload_n dX9_text_139 rfl ?_
              refine r_iaddN dX9_text_140 ?_
              refine r_cVv dX9_text_141 (m_prints hl2) lX9_288 rfl rfl rfl (by decide) ⟨Nat.le_refl _, Nat.le_refl _⟩ (Nat.le_of_ble_eq_true rfl) ?_
              refine r_pc 144 rfl ?_
              exact S
        have S107 : ∀ p, p ++ (zs (9 + cd i % 100) ++ ((if t ≤ 1 then [] else [32, 48 + t]) ++ D)) = T → Rp mX9_text 9 0 0 w0 (Top (nI T.length) (RI L b n m cd Q ik kn kc kQ fn fr fz tal R)) 0 0 107 [some (.ref 100), some (.int (-1)), some (.int (nI i)), some (.int (nI t))] [] (R, mW rc rf ro rt ru rm rg rp rq ry rl (nI fn) (fz) (wt) rk rx rz rd (nI n) (nI (m - n)) (rkI ik kn) rT rR (nI L) rN rA rF rC rO rB rY (putL rP (p)) (nI (p).length)) := by
          intro p he
          have hl := congrArg List.length he
          simp only [List.length_append] at hl
          have S := S125 (p ++ zs (9 + cd i % 100)) (by rw [← he, List.append_assoc])
          have hg : (fun j => some (2009 + j)) (cd i % 100) = some (2000 + (9 + cd i % 100)) := congrArg some (by omega)
          refine r_aload_n dX9_text_107 rfl ?_
          refine r_aload_n dX9_text_108 rfl ?_
          refine r_get dX9_text_109 fX9_57 rfl rfl ?_
          refine r_aload_n dX9_text_112 rfl ?_
          refine r_get dX9_text_113 fX9_96 rfl rfl ?_
          refine r_pc 116 rfl ?_
          refine r_iload_n dX9_text_116 rfl ?_
          refine r_iald dX9_text_117 rfl rfl (by omega) (by decide) ?_
          refine r_topi _ ei ?_
          refine r_bipush (v := (nI 100)) dX9_text_118 (by decide) ?_
          refine r_iremN dX9_text_120 (by omega) (by decide) (by decide) ?_
          refine r_aald dX9_text_121 (n := 12) rfl rfl c2 (by decide) hg ?_
          refine r_pc 122 rfl ?_
          refine r_cVv dX9_text_122 (m_printsS (by omega) (by omega)) lX9_291 rfl rfl rfl (by decide) ⟨Nat.le_refl _, Nat.le_refl _⟩ (Nat.le_of_ble_eq_true rfl) ?_
          refine r_pc 125 rfl ?_
          exact S
        have S72 : ∀ p, p ++ ((if cd i / 100 = 0 then [] else zs (cd i / 100) ++ [32]) ++ (zs (9 + cd i % 100) ++ ((if t ≤ 1 then [] else [32, 48 + t]) ++ D))) = T → Rp mX9_text 9 0 0 w0 (Top (nI T.length) (RI L b n m cd Q ik kn kc kQ fn fr fz tal R)) 0 0 72 [some (.ref 100), some (.int (-1)), some (.int (nI i)), some (.int (nI t))] [] (R, mW rc rf ro rt ru rm rg rp rq ry rl (nI fn) (fz) (wt) rk rx rz rd (nI n) (nI (m - n)) (rkI ik kn) rT rR (nI L) rN rA rF rC rO rB rY (putL rP (p)) (nI (p).length)) := by
          intro p he
          have hl := congrArg List.length he
          simp only [List.length_append] at hl
          by_cases hw : cd i / 100 = 0
          · rw [if_pos hw, List.nil_append] at he
            have S := S107 p he
            refine r_aload_n dX9_text_72 rfl ?_
            refine r_get dX9_text_73 fX9_96 rfl rfl ?_
            refine r_iload_n dX9_text_76 rfl ?_
            refine r_iald dX9_text_77 rfl rfl (by omega) (by decide) ?_
            refine r_topi _ ei ?_
            refine r_bipush (v := (nI 100)) dX9_text_78 (by decide) ?_
            refine r_pc 80 rfl ?_
            refine r_icmp_ltN 107 dX9_text_80 (by decide) (by omega) (by omega) (fun h80 => ?_) (fun h80 => ?_)
            · refine r_pc 107 rfl ?_
              refine r_pc 107 rfl ?_
              exact S
            · exact absurd h80 (by omega)
          · rw [if_neg hw] at he hl
            simp only [List.length_append, List.length_cons, List.length_nil] at hl
            have S := S107 (p ++ zs (cd i / 100) ++ [32]) (by rw [← he]; simp)
            have hg : (fun j => some (2000 + j)) (cd i / 100) = some (2000 + cd i / 100) := rfl
            have hl2 : (p ++ zs (cd i / 100)).length < 4000 := by rw [List.length_append]; omega
            refine r_aload_n dX9_text_72 rfl ?_
            refine r_get dX9_text_73 fX9_96 rfl rfl ?_
            refine r_iload_n dX9_text_76 rfl ?_
            refine r_iald dX9_text_77 rfl rfl (by omega) (by decide) ?_
            refine r_topi _ ei ?_
            refine r_bipush (v := (nI 100)) dX9_text_78 (by decide) ?_
            refine r_pc 80 rfl ?_
            refine r_icmp_ltN 107 dX9_text_80 (by decide) (by omega) (by omega) (fun h80 => ?_) (fun h80 => ?_)
            · exact absurd h80 (by omega)
            · refine r_pc 83 rfl ?_
              refine r_aload_n dX9_text_83 rfl ?_
              refine r_aload_n dX9_text_84 rfl ?_
              refine r_get dX9_text_85 fX9_27 rfl rfl ?_
              refine r_aload_n dX9_text_88 rfl ?_
              refine r_get dX9_text_89 fX9_96 rfl rfl ?_
              refine r_pc 92 rfl ?_
              refine r_iload_n dX9_text_92 rfl ?_
              refine r_iald dX9_text_93 rfl rfl (by omega) (by decide) ?_
              refine r_topi _ ei ?_
              refine r_bipush (v := (nI 100)) dX9_text_94 (by decide) ?_
              refine r_idivN dX9_text_96 (by omega) (by decide) (by decide) ?_
              refine r_aald dX9_text_97 (n := 9) rfl rfl c1 (by decide) hg ?_
              refine r_pc 98 rfl ?_
              refine r_cVv dX9_text_98 (m_printsS (by omega) (by omega)) lX9_291 rfl rfl rfl (by decide) ⟨Nat.le_refl _, Nat.le_refl _⟩ (Nat.le_of_ble_eq_true rfl) ?_
              refine r_aload_n dX9_text_101 rfl ?_
              refine r_bipush (v := (nI 32)) dX9_text_102 (by decide) ?_
              refine r_cVv dX9_text_104 (m_prints hl2) lX9_288 rfl rfl rfl (by decide) ⟨Nat.le_refl _, Nat.le_refl _⟩ (Nat.le_of_ble_eq_true rfl) ?_
              refine r_pc 107 rfl ?_
              exact S
        have S62 : Rp mX9_text 9 0 0 w0 (Top (nI T.length) (RI L b n m cd Q ik kn kc kQ fn fr fz tal R)) 0 0 62 [some (.ref 100), some (.int (-1)), some (.int (nI i)), some (.int (nI t))] [] (R, mW rc rf ro rt ru rm rg rp rq ry rl (nI fn) (fz) (wt) rk rx rz rd (nI n) (nI (m - n)) (rkI ik kn) rT rR (nI L) rN rA rF rC rO rB rY (putL rP (p)) (nI (p).length)) := by
          unfold callB at he
          by_cases hi0 : i = 0
          · rw [if_pos hi0, List.nil_append, List.append_assoc, List.append_assoc] at he
            have S := S72 p he
            refine r_iload_n dX9_text_62 rfl ?_
            refine r_if_le 72 dX9_text_63 (by decide) (fun h63 => ?_) (fun h63 => ?_)
            · refine r_pc 72 rfl ?_
              refine r_pc 72 rfl ?_
              exact S
            · exact absurd (by rw [hi0]; decide) h63
          · rw [if_neg hi0, List.append_assoc, List.append_assoc] at he
            have hl := congrArg List.length he
            simp only [List.length_append, List.length_cons, List.length_nil] at hl
            have S := S72 (p ++ [44]) (by rw [← he]; simp)
            have hl1 : p.length < 4000 := by omega
            refine r_iload_n dX9_text_62 rfl ?_
            refine r_if_le 72 dX9_text_63 (by decide) (fun h63 => ?_) (fun h63 => ?_)
            · exact absurd h63 (nI_nle (by omega) (by omega))
            · refine r_pc 66 rfl ?_
              refine r_aload_n dX9_text_66 rfl ?_
              refine r_bipush (v := (nI 44)) dX9_text_67 (by decide) ?_
              refine r_cVv dX9_text_69 (m_prints hl1) lX9_288 rfl rfl rfl (by decide) ⟨Nat.le_refl _, Nat.le_refl _⟩ (Nat.le_of_ble_eq_true rfl) ?_
              refine r_pc 72 rfl ?_
              exact S
        have Lt : ∀ (g u : Nat), u + g = 4 → 1 ≤ u → sfx dc n i g u = t → Rp mX9_text 9 0 0 w0 (Top (nI T.length) (RI L b n m cd Q ik kn kc kQ fn fr fz tal R)) 0 0 24 [some (.ref 100), some (.int (-1)), some (.int (nI i)), some (.int (nI u))] [] (R, mW rc rf ro rt ru rm rg rp rq ry rl (nI fn) (fz) (wt) rk rx rz rd (nI n) (nI (m - n)) (rkI ik kn) rT rR (nI L) rN rA rF rC rO rB rY (putL rP (p)) (nI (p).length)) := by
          intro g
          induction g with
          | zero =>
            intro u hu hu1 hs
            have : u = t := hs
            rw [this] at hu ⊢
            refine r_iload_n dX9_text_24 rfl ?_
            refine r_iconst (v := (nI 4)) dX9_text_25 (by decide) ?_
            refine r_icmp_geN 62 dX9_text_26 (by decide) (by omega) (by omega) (fun h26 => ?_) (fun h26 => ?_)
            · refine r_pc 62 rfl ?_
              refine r_pc 62 rfl ?_
              exact S62
            · exact absurd h26 (by omega)
          | succ g ih2 =>
            intro u hu hu1 hs
            unfold sfx at hs
            by_cases hiu : i + u < n
            · have eu : rx (i + u) = nI (cd (i + u)) := hcx _ hiu
              have hc9 := hcd (i + u) (by omega)
              by_cases hcc : cd (i + u) = cd i
              · rw [if_pos ⟨hiu, by rw [hdj, hdj, hcc]⟩] at hs
                have ih2 := ih2 (u + 1) (by omega) (by omega) hs
                refine r_iload_n dX9_text_24 rfl ?_
                refine r_iconst (v := (nI 4)) dX9_text_25 (by decide) ?_
                refine r_icmp_geN 62 dX9_text_26 (by decide) (by omega) (by omega) (fun h26 => ?_) (fun h26 => ?_)
                · exact absurd h26 (by omega)
                · refine r_pc 29 rfl ?_
                  refine r_iload_n dX9_text_29 rfl ?_
                  refine r_iload_n dX9_text_30 rfl ?_
                  refine r_iaddN dX9_text_31 ?_
                  refine r_aload_n dX9_text_32 rfl ?_
                  refine r_get dX9_text_33 fX9_144 rfl rfl ?_
                  refine r_pc 36 rfl ?_
                  refine r_icmp_geN 62 dX9_text_36 (by decide) (by omega) (by omega) (fun h36 => ?_) (fun h36 => ?_)
                  · exact absurd h36 (by omega)
                  · refine r_pc 39 rfl ?_
                    refine r_aload_n dX9_text_39 rfl ?_
                    refine r_get dX9_text_40 fX9_96 rfl rfl ?_
                    refine r_iload_n dX9_text_43 rfl ?_
                    refine r_iload_n dX9_text_44 rfl ?_
                    refine r_iaddN dX9_text_45 ?_
                    refine r_pc 46 rfl ?_
                    refine r_iald dX9_text_46 rfl rfl (by omega) (by decide) ?_
                    refine r_topi _ eu ?_
                    refine r_aload_n dX9_text_47 rfl ?_
                    refine r_get dX9_text_48 fX9_96 rfl rfl ?_
                    refine r_iload_n dX9_text_51 rfl ?_
                    refine r_iald dX9_text_52 rfl rfl (by omega) (by decide) ?_
                    refine r_pc 53 rfl ?_
                    refine r_topi _ ei ?_
                    refine r_icmp_neN 62 dX9_text_53 (by decide) (by omega) (by omega) (fun h53 => ?_) (fun h53 => ?_)
                    · exact absurd hcc h53
                    · refine r_pc 56 rfl ?_
                      refine r_inc1 (ls' := [_, _, _, _]) dX9_text_56 (by decide) rfl rfl ?_
                      refine r_goto 24 dX9_text_59 (by decide) ?_
                      refine r_pc 24 rfl ?_
                      exact ih2
              · rw [if_neg (fun z => hcc ((nI_eq (by omega) (by omega)).mp (by rw [← hdj, ← hdj]; exact z.2)))] at hs
                subst hs
                refine r_iload_n dX9_text_24 rfl ?_
                refine r_iconst (v := (nI 4)) dX9_text_25 (by decide) ?_
                refine r_icmp_geN 62 dX9_text_26 (by decide) (by omega) (by omega) (fun h26 => ?_) (fun h26 => ?_)
                · exact absurd h26 (by omega)
                · refine r_pc 29 rfl ?_
                  refine r_iload_n dX9_text_29 rfl ?_
                  refine r_iload_n dX9_text_30 rfl ?_
                  refine r_iaddN dX9_text_31 ?_
                  refine r_aload_n dX9_text_32 rfl ?_
                  refine r_get dX9_text_33 fX9_144 rfl rfl ?_
                  refine r_pc 36 rfl ?_
                  refine r_icmp_geN 62 dX9_text_36 (by decide) (by omega) (by omega) (fun h36 => ?_) (fun h36 => ?_)
                  · exact absurd h36 (by omega)
                  · refine r_pc 39 rfl ?_
                    refine r_aload_n dX9_text_39 rfl ?_
                    refine r_get dX9_text_40 fX9_96 rfl rfl ?_
                    refine r_iload_n dX9_text_43 rfl ?_
                    refine r_iload_n dX9_text_44 rfl ?_
                    refine r_iaddN dX9_text_45 ?_
                    refine r_pc 46 rfl ?_
                    refine r_iald dX9_text_46 rfl rfl (by omega) (by decide) ?_
                    refine r_topi _ eu ?_
                    refine r_aload_n dX9_text_47 rfl ?_
                    refine r_get dX9_text_48 fX9_96 rfl rfl ?_
                    refine r_iload_n dX9_text_51 rfl ?_
                    refine r_iald dX9_text_52 rfl rfl (by omega) (by decide) ?_
                    refine r_pc 53 rfl ?_
                    refine r_topi _ ei ?_
                    refine r_icmp_neN 62 dX9_text_53 (by decide) (by omega) (by omega) (fun h53 => ?_) (fun h53 => ?_)
                    · refine r_pc 62 rfl ?_
                      refine r_pc 62 rfl ?_
                      exact S62
                    · exact absurd h53 hcc
            · rw [if_neg (fun z => hiu z.1)] at hs
              subst hs
              refine r_iload_n dX9_text_24 rfl ?_
              refine r_iconst (v := (nI 4)) dX9_text_25 (by decide) ?_
              refine r_icmp_geN 62 dX9_text_26 (by decide) (by omega) (by omega) (fun h26 => ?_) (fun h26 => ?_)
              · exact absurd h26 (by omega)
              · refine r_pc 29 rfl ?_
                refine r_iload_n dX9_text_29 rfl ?_
                refine r_iload_n dX9_text_30 rfl ?_
                refine r_iaddN dX9_text_31 ?_
                refine r_aload_n dX9_text_32 rfl ?_
                refine r_get dX9_text_33 fX9_144 rfl rfl ?_
                refine r_pc 36 rfl ?_
                refine r_icmp_geN 62 dX9_text_36 (by decide) (by omega) (by omega) (fun h36 => ?_) (fun h36 => ?_)
                · refine r_pc 62 rfl ?_
                  refine r_pc 62 rfl ?_
                  exact S62
                · exact absurd h36 (by omega)
        have Lt := Lt 3 1 (by decide) (by decide) ht
        refine r_iload_n dX9_text_14 rfl ?_
        refine r_aload_n dX9_text_15 rfl ?_
        refine r_get dX9_text_16 fX9_144 rfl rfl ?_
        refine r_icmp_geN 151 dX9_text_19 (by decide) (by omega) (by omega) (fun h19 => ?_) (fun h19 => ?_)
        · exact absurd h19 (by omega)
        · refine r_pc 22 rfl ?_
          refine r_iconst (v := (nI 1)) dX9_text_22 (by decide) ?_
          refine r_istore_n (ls' := [_, _, _, _]) dX9_text_23 (by decide) rfl ?_
          refine r_pc 24 rfl ?_
          exact Lt
      · rw [if_neg hin, List.append_nil] at he
        subst he
        refine r_iload_n dX9_text_14 rfl ?_
        refine r_aload_n dX9_text_15 rfl ?_
        refine r_get dX9_text_16 fX9_144 rfl rfl ?_
        refine r_icmp_geN 151 dX9_text_19 (by decide) (by omega) (by omega) (fun h19 => ?_) (fun h19 => ?_)
        · refine r_pc 151 rfl ?_
          refine r_pc 151 rfl ?_
          exact F _ _
        · exact absurd h19 (by omega)
  subst hw0
  refine r_iload_n dX9_text_0 rfl ?_
  refine r_iconst (v := (-1)) dX9_text_1 (by decide) ?_
  refine r_icmp_ge 7 dX9_text_2 (by decide) (fun h2 => ?_) (fun h2 => ?_)
  · refine r_pc 7 rfl ?_
    refine r_aload_n dX9_text_7 rfl ?_
    refine r_iconst (v := (nI 0)) dX9_text_8 (by decide) ?_
    refine r_put (w2 := (_, mW _ _ _ _ _ _ _ _ _ _ _ _ _ _ _ _ _ _ _ _ _ _ _ _ _ _ _ _ _ _ _ _ _)) dX9_text_9 fX9_285 rfl rfl (Nat.le_of_ble_eq_true rfl) (fun _ => rfl) (fun _ => rfl) rfl ?_
    refine r_iconst (v := (nI 0)) dX9_text_12 (by decide) ?_
    refine r_istore_n (ls' := [_, _, _, _]) dX9_text_13 (by decide) rfl ?_
    refine r_pc 14 rfl ?_
    refine r_pc 14 rfl ?_
    refine r_w (R, mW rc rf ro rt ru rm rg rp rq ry rl (nI fn) (fz) (wt) rk rx rz rd (nI n) (nI (m - n)) (rkI ik kn) rT rR (nI L) rN rA rF rC rO rB rY (putL rP (([] : List Nat))) (nI (([] : List Nat)).length)) (by rw [putL_nil]; rfl) ?_
    exact Lp 200 0 [] none (by omega) (by decide) (by rw [hTe]; rfl)
  · exact absurd (by decide) h2
theorem d_text_1 {i0 : Nat} (hR : RI L b n m cd Q ik kn kc kQ fn fr fz tal R w) (h : i0 < (txt cd n).length) : SemP mX9_text 9 0 0 [.ref 100, .int (nI i0)] w (Top (nI ((txt cd n).getD i0 0)) (RI L b n m cd Q ik kn kc kQ fn fr fz tal R)) := by
  obtain ⟨rc, rf, ro, rt, ru, rm, rg, rp, rq, ry, rl, wt, rk, rx, rz, rd, rT, rR, rN, rA, rF, rC, rO, rB, rY, rP, rb, rfl, ⟨s1, s2, s3, s4, s5, s6⟩, hB, hrx, hrw, hrz, hrk, hrl, hrd⟩ := hR
  have hm : m ≤ 200 := s4.1
  have hkn : kn ≤ 200 := s5.1
  have hL : L ≤ 120 := s1
  have s3 : n ≤ m := s3
  have hn : n ≤ 200 := Nat.le_trans s3 s4.1
  have s6 : fn ≤ 8 := s6
  have hrx : ∀ j, j < m → rx j = nI (cd j) := hrx
  have hrw : ∀ j, j ≤ m → wt j = bt (Q j) := hrw
  have hrl : ∀ j, j < fn → rl j = fr j := hrl
  have hrd : ∀ j, j < 12 → rd j = tal j := hrd
  have hQn : wt n = bt (Q n) := hrw n s3
  have hVn : Vq (Q n) := s4.2.2.1 n s3
  refine semP_of (by decide) (Nat.le_of_ble_eq_true rfl) rfl ?_
  have hcd := s4.2.1
  have hT : (txt cd n).length ≤ 3600 := dtx_len (fun j hj => hcd j (by omega)) 200 0
  have hTe : txt cd n = dtx cd (fun j => nI (cd j)) n 200 0 := rfl
  have hcx : ∀ j, j < n → rx j = nI (cd j) := fun j hj => hrx j (by omega)
  generalize hdc : (fun j => nI (cd j)) = dc at hTe
  have hdj : ∀ j, dc j = nI (cd j) := fun j => by rw [← hdc]
  generalize txt cd n = T at hT hTe h ⊢
  generalize hw0 : (R, mW rc rf ro rt ru rm rg rp rq ry rl (nI fn) (fz) (wt) rk rx rz rd (nI n) (nI (m - n)) (rkI ik kn) rT rR (nI L) rN rA rF rC rO rB rY rP rb) = w0
  have F : ∀ (y2 y3 : Option Value), Rp mX9_text 9 0 0 w0 (Top (nI (T.getD i0 0)) (RI L b n m cd Q ik kn kc kQ fn fr fz tal R)) 0 0 151 [some (.ref 100), some (.int (nI i0)), y2, y3] [] (R, mW rc rf ro rt ru rm rg rp rq ry rl (nI fn) (fz) (wt) rk rx rz rd (nI n) (nI (m - n)) (rkI ik kn) rT rR (nI L) rN rA rF rC rO rB rY (putL rP (T)) (nI (T).length)) := by
    intro y2 y3
    have hy : putL rP T i0 = nI (T.getD i0 0) := putL_at rP h
    refine r_iload_n dX9_text_151 rfl ?_
    refine r_if_ge 162 dX9_text_152 (by decide) (fun h152 => ?_) (fun h152 => ?_)
    · refine r_pc 162 rfl ?_
      refine r_iload_n dX9_text_162 rfl ?_
      refine r_aload_n dX9_text_163 rfl ?_
      refine r_get dX9_text_164 fX9_285 rfl rfl ?_
      refine r_icmp_geN 179 dX9_text_167 (by decide) (by omega) (by omega) (fun h167 => ?_) (fun h167 => ?_)
      · exact absurd h167 (by omega)
      · refine r_pc 170 rfl ?_
        refine r_aload_n dX9_text_170 rfl ?_
        refine r_get dX9_text_171 fX9_127 rfl rfl ?_
        refine r_iload_n dX9_text_174 rfl ?_
        refine r_iald dX9_text_175 rfl rfl (by omega) (by decide) ?_
        refine r_topi _ hy ?_
        refine r_goto 181 dX9_text_176 (by decide) ?_
        exact r_iretP dX9_text_181 rfl ⟨rfl, _, _, _, _, _, _, _, _, _, _, _, _, _, _, _, _, _, _, _, _, _, _, _, _, _, _, _, rfl, ⟨⟨s1, s2, s3, s4, s5, s6⟩, hB, hrx, hrw, hrz, hrk, hrl, hrd⟩⟩
    · exact absurd (nI_pos' (by omega)) h152
  have Lp : ∀ (f i : Nat) (p : List Nat) (y3 : Option Int32), n ≤ i + f → i < 2 ^ 30 → p ++ dtx cd dc n f i = T → Rp mX9_text 9 0 0 w0 (Top (nI (T.getD i0 0)) (RI L b n m cd Q ik kn kc kQ fn fr fz tal R)) 0 0 14 [some (.ref 100), some (.int (nI i0)), some (.int (nI i)), y3.map .int] [] (R, mW rc rf ro rt ru rm rg rp rq ry rl (nI fn) (fz) (wt) rk rx rz rd (nI n) (nI (m - n)) (rkI ik kn) rT rR (nI L) rN rA rF rC rO rB rY (putL rP (p)) (nI (p).length)) := by
    intro f
    induction f with
    | zero =>
      intro i p y3 hi hi2 he
      have he : p = T := by rw [← he]; simp [dtx]
      subst he
      refine r_iload_n dX9_text_14 rfl ?_
      refine r_aload_n dX9_text_15 rfl ?_
      refine r_get dX9_text_16 fX9_144 rfl rfl ?_
      refine r_icmp_geN 151 dX9_text_19 (by decide) (by omega) (by omega) (fun h19 => ?_) (fun h19 => ?_)
      · refine r_pc 151 rfl ?_
        refine r_pc 151 rfl ?_
        exact F _ _
      · exact absurd h19 (by omega)
    | succ f ih =>
      intro i p y3 hi hi2 he
      unfold dtx at he
      by_cases hin : i < n
      · rw [if_pos hin] at he
        have ei : rx i = nI (cd i) := hcx i hin
        obtain ⟨c1, c2⟩ := hcd i (by omega)
        obtain ⟨q1, q2⟩ := sameN_at dc n i
        generalize ht : sameN dc n i = t at he q1 q2
        generalize hD : dtx cd dc n f (i + t) = D at he
        have S144 : ∀ p, p ++ D = T → Rp mX9_text 9 0 0 w0 (Top (nI (T.getD i0 0)) (RI L b n m cd Q ik kn kc kQ fn fr fz tal R)) 0 0 144 [some (.ref 100), some (.int (nI i0)), some (.int (nI i)), some (.int (nI t))] [] (R, mW rc rf ro rt ru rm rg rp rq ry rl (nI fn) (fz) (wt) rk rx rz rd (nI n) (nI (m - n)) (rkI ik kn) rT rR (nI L) rN rA rF rC rO rB rY (putL rP (p)) (nI (p).length)) := by
          intro p he
          rw [← hD] at he
          have ih := ih (i + t) p (some (nI t)) (by omega) (by omega) he
          refine r_iload_n dX9_text_144 rfl ?_
          refine r_iload_n dX9_text_145 rfl ?_
          refine r_iaddN dX9_text_146 ?_
          refine r_istore_n (ls' := [_, _, _, _]) dX9_text_147 (by decide) rfl ?_
          refine r_goto 14 dX9_text_148 (by decide) ?_
          refine r_pc 14 rfl ?_
          exact ih
        have S125 : ∀ p, p ++ ((if t ≤ 1 then [] else [32, 48 + t]) ++ D) = T → Rp mX9_text 9 0 0 w0 (Top (nI (T.getD i0 0)) (RI L b n m cd Q ik kn kc kQ fn fr fz tal R)) 0 0 125 [some (.ref 100), some (.int (nI i0)), some (.int (nI i)), some (.int (nI t))] [] (R, mW rc rf ro rt ru rm rg rp rq ry rl (nI fn) (fz) (wt) rk rx rz rd (nI n) (nI (m - n)) (rkI ik kn) rT rR (nI L) rN rA rF rC rO rB rY (putL rP (p)) (nI (p).length)) := by
          intro p he
          by_cases ht1 : t ≤ 1
          · rw [if_pos ht1, List.nil_append] at he
            have S := S144 p he
            refine r_iload_n dX9_text_125 rfl ?_
            refine r_iconst (v := (nI 1)) dX9_text_126 (by decide) ?_
            refine r_icmp_leN 144 dX9_text_127 (by decide) (by omega) (by omega) (fun h127 => ?_) (fun h127 => ?_)
            · refine r_pc 144 rfl ?_
              refine r_pc 144 rfl ?_
              exact S
            · exact absurd h127 (by omega)
          · rw [if_neg ht1] at he
            have hl := congrArg List.length he
            simp at hl
            have S := S144 (p ++ [32] ++ [48 + t]) (by rw [← he]; simp)
            have hl1 : p.length < 4000 := by omega
            have hl2 : (p ++ [32]).length < 4000 := by simp; omega
            refine r_iload_n dX9_text_125 rfl ?_
            refine r_iconst (v := (nI 1)) dX9_text_126 (by decide) ?_
            refine r_icmp_leN 144 dX9_text_127 (by decide) (by omega) (by omega) (fun h127 => ?_) (fun h127 => ?_)
            · exact absurd h127 ht1
            · refine r_pc 130 rfl ?_
              refine r_aload_n dX9_text_130 rfl ?_
              refine r_bipush (v := (nI 32)) dX9_text_131 (by decide) ?_
              refine r_cVv dX9_text_133 (m_prints hl1) lX9_288 rfl rfl rfl (by decide) ⟨Nat.le_refl _, Nat.le_refl _⟩ (Nat.le_of_ble_eq_true rfl) ?_
              refine r_aload_n dX9_text_136 rfl ?_
              refine r_bipush (v := (nI 48)) dX9_text_137 (by decide) ?_
              refine r_pc 139 rfl ?_
              refine r_iload_n dX9_text_139 rfl ?_
              refine r_iaddN dX9_text_140 ?_
              refine r_cVv dX9_text_141 (m_prints hl2) lX9_288 rfl rfl rfl (by decide) ⟨Nat.le_refl _, Nat.le_refl _⟩ (Nat.le_of_ble_eq_true rfl) ?_
              refine r_pc 144 rfl ?_
              exact S
        have S107 : ∀ p, p ++ (zs (9 + cd i % 100) ++ ((if t ≤ 1 then [] else [32, 48 + t]) ++ D)) = T → Rp mX9_text 9 0 0 w0 (Top (nI (T.getD i0 0)) (RI L b n m cd Q ik kn kc kQ fn fr fz tal R)) 0 0 107 [some (.ref 100), some (.int (nI i0)), some (.int (nI i)), some (.int (nI t))] [] (R, mW rc rf ro rt ru rm rg rp rq ry rl (nI fn) (fz) (wt) rk rx rz rd (nI n) (nI (m - n)) (rkI ik kn) rT rR (nI L) rN rA rF rC rO rB rY (putL rP (p)) (nI (p).length)) := by
          intro p he
          have hl := congrArg List.length he
          simp only [List.length_append] at hl
          have S := S125 (p ++ zs (9 + cd i % 100)) (by rw [← he, List.append_assoc])
          have hg : (fun j => some (2009 + j)) (cd i % 100) = some (2000 + (9 + cd i % 100)) := congrArg some (by omega)
          refine r_aload_n dX9_text_107 rfl ?_
          refine r_aload_n dX9_text_108 rfl ?_
          refine r_get dX9_text_109 fX9_57 rfl rfl ?_
          refine r_aload_n dX9_text_112 rfl ?_
          refine r_get dX9_text_113 fX9_96 rfl rfl ?_
          refine r_pc 116 rfl ?_
          refine r_iload_n dX9_text_116 rfl ?_
          refine r_iald dX9_text_117 rfl rfl (by omega) (by decide) ?_
          refine r_topi _ ei ?_
          refine r_bipush (v := (nI 100)) dX9_text_118 (by decide) ?_
          refine r_iremN dX9_text_120 (by omega) (by decide) (by decide) ?_
          refine r_aald dX9_text_121 (n := 12) rfl rfl c2 (by decide) hg ?_
          refine r_pc 122 rfl ?_
          refine r_cVv dX9_text_122 (m_printsS (by omega) (by omega)) lX9_291 rfl rfl rfl (by decide) ⟨Nat.le_refl _, Nat.le_refl _⟩ (Nat.le_of_ble_eq_true rfl) ?_
          refine r_pc 125 rfl ?_
          exact S
        have S72 : ∀ p, p ++ ((if cd i / 100 = 0 then [] else zs (cd i / 100) ++ [32]) ++ (zs (9 + cd i % 100) ++ ((if t ≤ 1 then [] else [32, 48 + t]) ++ D))) = T → Rp mX9_text 9 0 0 w0 (Top (nI (T.getD i0 0)) (RI L b n m cd Q ik kn kc kQ fn fr fz tal R)) 0 0 72 [some (.ref 100), some (.int (nI i0)), some (.int (nI i)), some (.int (nI t))] [] (R, mW rc rf ro rt ru rm rg rp rq ry rl (nI fn) (fz) (wt) rk rx rz rd (nI n) (nI (m - n)) (rkI ik kn) rT rR (nI L) rN rA rF rC rO rB rY (putL rP (p)) (nI (p).length)) := by
          intro p he
          have hl := congrArg List.length he
          simp only [List.length_append] at hl
          by_cases hw : cd i / 100 = 0
          · rw [if_pos hw, List.nil_append] at he
            have S := S107 p he
            refine r_aload_n dX9_text_72 rfl ?_
            refine r_get dX9_text_73 fX9_96 rfl rfl ?_
            refine r_iload_n dX9_text_76 rfl ?_
            refine r_iald dX9_text_77 rfl rfl (by omega) (by decide) ?_
            refine r_topi _ ei ?_
            refine r_bipush (v := (nI 100)) dX9_text_78 (by decide) ?_
            refine r_pc 80 rfl ?_
            refine r_icmp_ltN 107 dX9_text_80 (by decide) (by omega) (by omega) (fun h80 => ?_) (fun h80 => ?_)
            · refine r_pc 107 rfl ?_
              refine r_pc 107 rfl ?_
              exact S
            · exact absurd h80 (by omega)
          · rw [if_neg hw] at he hl
            simp only [List.length_append, List.length_cons, List.length_nil] at hl
            have S := S107 (p ++ zs (cd i / 100) ++ [32]) (by rw [← he]; simp)
            have hg : (fun j => some (2000 + j)) (cd i / 100) = some (2000 + cd i / 100) := rfl
            have hl2 : (p ++ zs (cd i / 100)).length < 4000 := by rw [List.length_append]; omega
            refine r_aload_n dX9_text_72 rfl ?_
            refine r_get dX9_text_73 fX9_96 rfl rfl ?_
            refine r_iload_n dX9_text_76 rfl ?_
            refine r_iald dX9_text_77 rfl rfl (by omega) (by decide) ?_
            refine r_topi _ ei ?_
            refine r_bipush (v := (nI 100)) dX9_text_78 (by decide) ?_
            refine r_pc 80 rfl ?_
            refine r_icmp_ltN 107 dX9_text_80 (by decide) (by omega) (by omega) (fun h80 => ?_) (fun h80 => ?_)
            · exact absurd h80 (by omega)
            · refine r_pc 83 rfl ?_
              refine r_aload_n dX9_text_83 rfl ?_
              refine r_aload_n dX9_text_84 rfl ?_
              refine r_get dX9_text_85 fX9_27 rfl rfl ?_
              refine r_aload_n dX9_text_88 rfl ?_
              refine r_get dX9_text_89 fX9_96 rfl rfl ?_
              refine r_pc 92 rfl ?_
              refine r_iload_n dX9_text_92 rfl ?_
              refine r_iald dX9_text_93 rfl rfl (by omega) (by decide) ?_
              refine r_topi _ ei ?_
              refine r_bipush (v := (nI 100)) dX9_text_94 (by decide) ?_
              refine r_idivN dX9_text_96 (by omega) (by decide) (by decide) ?_
              refine r_aald dX9_text_97 (n := 9) rfl rfl c1 (by decide) hg ?_
              refine r_pc 98 rfl ?_
              refine r_cVv dX9_text_98 (m_printsS (by omega) (by omega)) lX9_291 rfl rfl rfl (by decide) ⟨Nat.le_refl _, Nat.le_refl _⟩ (Nat.le_of_ble_eq_true rfl) ?_
              refine r_aload_n dX9_text_101 rfl ?_
              refine r_bipush (v := (nI 32)) dX9_text_102 (by decide) ?_
              refine r_cVv dX9_text_104 (m_prints hl2) lX9_288 rfl rfl rfl (by decide) ⟨Nat.le_refl _, Nat.le_refl _⟩ (Nat.le_of_ble_eq_true rfl) ?_
              refine r_pc 107 rfl ?_
              exact S
        have S62 : Rp mX9_text 9 0 0 w0 (Top (nI (T.getD i0 0)) (RI L b n m cd Q ik kn kc kQ fn fr fz tal R)) 0 0 62 [some (.ref 100), some (.int (nI i0)), some (.int (nI i)), some (.int (nI t))] [] (R, mW rc rf ro rt ru rm rg rp rq ry rl (nI fn) (fz) (wt) rk rx rz rd (nI n) (nI (m - n)) (rkI ik kn) rT rR (nI L) rN rA rF rC rO rB rY (putL rP (p)) (nI (p).length)) := by
          unfold callB at he
          by_cases hi0 : i = 0
          · rw [if_pos hi0, List.nil_append, List.append_assoc, List.append_assoc] at he
            have S := S72 p he
            refine r_iload_n dX9_text_62 rfl ?_
            refine r_if_le 72 dX9_text_63 (by decide) (fun h63 => ?_) (fun h63 => ?_)
            · refine r_pc 72 rfl ?_
              refine r_pc 72 rfl ?_
              exact S
            · exact absurd (by rw [hi0]; decide) h63
          · rw [if_neg hi0, List.append_assoc, List.append_assoc] at he
            have hl := congrArg List.length he
            simp only [List.length_append, List.length_cons, List.length_nil] at hl
            have S := S72 (p ++ [44]) (by rw [← he]; simp)
            have hl1 : p.length < 4000 := by omega
            refine r_iload_n dX9_text_62 rfl ?_
            refine r_if_le 72 dX9_text_63 (by decide) (fun h63 => ?_) (fun h63 => ?_)
            · exact absurd h63 (nI_nle (by omega) (by omega))
            · refine r_pc 66 rfl ?_
              refine r_aload_n dX9_text_66 rfl ?_
              refine r_bipush (v := (nI 44)) dX9_text_67 (by decide) ?_
              refine r_cVv dX9_text_69 (m_prints hl1) lX9_288 rfl rfl rfl (by decide) ⟨Nat.le_refl _, Nat.le_refl _⟩ (Nat.le_of_ble_eq_true rfl) ?_
              refine r_pc 72 rfl ?_
              exact S
        have Lt : ∀ (g u : Nat), u + g = 4 → 1 ≤ u → sfx dc n i g u = t → Rp mX9_text 9 0 0 w0 (Top (nI (T.getD i0 0)) (RI L b n m cd Q ik kn kc kQ fn fr fz tal R)) 0 0 24 [some (.ref 100), some (.int (nI i0)), some (.int (nI i)), some (.int (nI u))] [] (R, mW rc rf ro rt ru rm rg rp rq ry rl (nI fn) (fz) (wt) rk rx rz rd (nI n) (nI (m - n)) (rkI ik kn) rT rR (nI L) rN rA rF rC rO rB rY (putL rP (p)) (nI (p).length)) := by
          intro g
          induction g with
          | zero =>
            intro u hu hu1 hs
            have : u = t := hs
            rw [this] at hu ⊢
            refine r_iload_n dX9_text_24 rfl ?_
            refine r_iconst (v := (nI 4)) dX9_text_25 (by decide) ?_
            refine r_icmp_geN 62 dX9_text_26 (by decide) (by omega) (by omega) (fun h26 => ?_) (fun h26 => ?_)
            · refine r_pc 62 rfl ?_
              refine r_pc 62 rfl ?_
              exact S62
            · exact absurd h26 (by omega)
          | succ g ih2 =>
            intro u hu hu1 hs
            unfold sfx at hs
            by_cases hiu : i + u < n
            · have eu : rx (i + u) = nI (cd (i + u)) := hcx _ hiu
              have hc9 := hcd (i + u) (by omega)
              by_cases hcc : cd (i + u) = cd i
              · rw [if_pos ⟨hiu, by rw [hdj, hdj, hcc]⟩] at hs
                have ih2 := ih2 (u + 1) (by omega) (by omega) hs
                refine r_iload_n dX9_text_24 rfl ?_
                refine r_iconst (v := (nI 4)) dX9_text_25 (by decide) ?_
                refine r_icmp_geN 62 dX9_text_26 (by decide) (by omega) (by omega) (fun h26 => ?_) (fun h26 => ?_)
                · exact absurd h26 (by omega)
                · refine r_pc 29 rfl ?_
                  refine r_iload_n dX9_text_29 rfl ?_
                  refine r_iload_n dX9_text_30 rfl ?_
                  refine r_iaddN dX9_text_31 ?_
                  refine r_aload_n dX9_text_32 rfl ?_
                  refine r_get dX9_text_33 fX9_144 rfl rfl ?_
                  refine r_pc 36 rfl ?_
                  refine r_icmp_geN 62 dX9_text_36 (by decide) (by omega) (by omega) (fun h36 => ?_) (fun h36 => ?_)
                  · exact absurd h36 (by omega)
                  · refine r_pc 39 rfl ?_
                    refine r_aload_n dX9_text_39 rfl ?_
                    refine r_get dX9_text_40 fX9_96 rfl rfl ?_
                    refine r_iload_n dX9_text_43 rfl ?_
                    refine r_iload_n dX9_text_44 rfl ?_
                    refine r_iaddN dX9_text_45 ?_
                    refine r_pc 46 rfl ?_
                    refine r_iald dX9_text_46 rfl rfl (by omega) (by decide) ?_
                    refine r_topi _ eu ?_
                    refine r_aload_n dX9_text_47 rfl ?_
                    refine r_get dX9_text_48 fX9_96 rfl rfl ?_
                    refine r_iload_n dX9_text_51 rfl ?_
                    refine r_iald dX9_text_52 rfl rfl (by omega) (by decide) ?_
                    refine r_pc 53 rfl ?_
                    refine r_topi _ ei ?_
                    refine r_icmp_neN 62 dX9_text_53 (by decide) (by omega) (by omega) (fun h53 => ?_) (fun h53 => ?_)
                    · exact absurd hcc h53
                    · refine r_pc 56 rfl ?_
                      refine r_inc1 (ls' := [_, _, _, _]) dX9_text_56 (by decide) rfl rfl ?_
                      refine r_goto 24 dX9_text_59 (by decide) ?_
                      refine r_pc 24 rfl ?_
                      exact ih2
              · rw [if_neg (fun z => hcc ((nI_eq (by omega) (by omega)).mp (by rw [← hdj, ← hdj]; exact z.2)))] at hs
                subst hs
                refine r_iload_n dX9_text_24 rfl ?_
                refine r_iconst (v := (nI 4)) dX9_text_25 (by decide) ?_
                refine r_icmp_geN 62 dX9_text_26 (by decide) (by omega) (by omega) (fun h26 => ?_) (fun h26 => ?_)
                · exact absurd h26 (by omega)
                · refine r_pc 29 rfl ?_
                  refine r_iload_n dX9_text_29 rfl ?_
                  refine r_iload_n dX9_text_30 rfl ?_
                  refine r_iaddN dX9_text_31 ?_
                  refine r_aload_n dX9_text_32 rfl ?_
                  refine r_get dX9_text_33 fX9_144 rfl rfl ?_
                  refine r_pc 36 rfl ?_
                  refine r_icmp_geN 62 dX9_text_36 (by decide) (by omega) (by omega) (fun h36 => ?_) (fun h36 => ?_)
                  · exact absurd h36 (by omega)
                  · refine r_pc 39 rfl ?_
                    refine r_aload_n dX9_text_39 rfl ?_
                    refine r_get dX9_text_40 fX9_96 rfl rfl ?_
                    refine r_iload_n dX9_text_43 rfl ?_
                    refine r_iload_n dX9_text_44 rfl ?_
                    refine r_iaddN dX9_text_45 ?_
                    refine r_pc 46 rfl ?_
                    refine r_iald dX9_text_46 rfl rfl (by omega) (by decide) ?_
                    refine r_topi _ eu ?_
                    refine r_aload_n dX9_text_47 rfl ?_
                    refine r_get dX9_text_48 fX9_96 rfl rfl ?_
                    refine r_iload_n dX9_text_51 rfl ?_
                    refine r_iald dX9_text_52 rfl rfl (by omega) (by decide) ?_
                    refine r_pc 53 rfl ?_
                    refine r_topi _ ei ?_
                    refine r_icmp_neN 62 dX9_text_53 (by decide) (by omega) (by omega) (fun h53 => ?_) (fun h53 => ?_)
                    · refine r_pc 62 rfl ?_
                      refine r_pc 62 rfl ?_
                      exact S62
                    · exact absurd h53 hcc
            · rw [if_neg (fun z => hiu z.1)] at hs
              subst hs
              refine r_iload_n dX9_text_24 rfl ?_
              refine r_iconst (v := (nI 4)) dX9_text_25 (by decide) ?_
              refine r_icmp_geN 62 dX9_text_26 (by decide) (by omega) (by omega) (fun h26 => ?_) (fun h26 => ?_)
              · exact absurd h26 (by omega)
              · refine r_pc 29 rfl ?_
                refine r_iload_n dX9_text_29 rfl ?_
                refine r_iload_n dX9_text_30 rfl ?_
                refine r_iaddN dX9_text_31 ?_
                refine r_aload_n dX9_text_32 rfl ?_
                refine r_get dX9_text_33 fX9_144 rfl rfl ?_
                refine r_pc 36 rfl ?_
                refine r_icmp_geN 62 dX9_text_36 (by decide) (by omega) (by omega) (fun h36 => ?_) (fun h36 => ?_)
                · refine r_pc 62 rfl ?_
                  refine r_pc 62 rfl ?_
                  exact S62
                · exact absurd h36 (by omega)
        have Lt := Lt 3 1 (by decide) (by decide) ht
        refine r_iload_n dX9_text_14 rfl ?_
        refine r_aload_n dX9_text_15 rfl ?_
        refine r_get dX9_text_16 fX9_144 rfl rfl ?_
        refine r_icmp_geN 151 dX9_text_19 (by decide) (by omega) (by omega) (fun h19 => ?_) (fun h19 => ?_)
        · exact absurd h19 (by omega)
        · refine r_pc 22 rfl ?_
          refine r_iconst (v := (nI 1)) dX9_text_22 (by decide) ?_
          refine r_istore_n (ls' := [_, _, _, _]) dX9_text_23 (by decide) rfl ?_
          refine r_pc 24 rfl ?_
          exact Lt
      · rw [if_neg hin, List.append_nil] at he
        subst he
        refine r_iload_n dX9_text_14 rfl ?_
        refine r_aload_n dX9_text_15 rfl ?_
        refine r_get dX9_text_16 fX9_144 rfl rfl ?_
        refine r_icmp_geN 151 dX9_text_19 (by decide) (by omega) (by omega) (fun h19 => ?_) (fun h19 => ?_)
        · refine r_pc 151 rfl ?_
          refine r_pc 151 rfl ?_
          exact F _ _
        · exact absurd h19 (by omega)
  subst hw0
  refine r_iload_n dX9_text_0 rfl ?_
  refine r_iconst (v := (-1)) dX9_text_1 (by decide) ?_
  refine r_icmp_ge 7 dX9_text_2 (by decide) (fun h2 => ?_) (fun h2 => ?_)
  · refine r_pc 7 rfl ?_
    refine r_aload_n dX9_text_7 rfl ?_
    refine r_iconst (v := (nI 0)) dX9_text_8 (by decide) ?_
    refine r_put (w2 := (_, mW _ _ _ _ _ _ _ _ _ _ _ _ _ _ _ _ _ _ _ _ _ _ _ _ _ _ _ _ _ _ _ _ _)) dX9_text_9 fX9_285 rfl rfl (Nat.le_of_ble_eq_true rfl) (fun _ => rfl) (fun _ => rfl) rfl ?_
    refine r_iconst (v := (nI 0)) dX9_text_12 (by decide) ?_
    refine r_istore_n (ls' := [_, _, _, _]) dX9_text_13 (by decide) rfl ?_
    refine r_pc 14 rfl ?_
    refine r_pc 14 rfl ?_
    refine r_w (R, mW rc rf ro rt ru rm rg rp rq ry rl (nI fn) (fz) (wt) rk rx rz rd (nI n) (nI (m - n)) (rkI ik kn) rT rR (nI L) rN rA rF rC rO rB rY (putL rP (([] : List Nat))) (nI (([] : List Nat)).length)) (by rw [putL_nil]; rfl) ?_
    exact Lp 200 0 [] none (by omega) (by decide) (by rw [hTe]; rfl)
  · exact absurd (ge_m1.mpr (nI_ge_m1 _ (by omega))) h2
theorem d_text_2 {i0 : Nat} (hR : RI L b n m cd Q ik kn kc kQ fn fr fz tal R w) (h : (txt cd n).length ≤ i0) (hi0 : i0 < 2 ^ 31) : SemP mX9_text 9 0 0 [.ref 100, .int (nI i0)] w (Top (-2) (RI L b n m cd Q ik kn kc kQ fn fr fz tal R)) := by
  obtain ⟨rc, rf, ro, rt, ru, rm, rg, rp, rq, ry, rl, wt, rk, rx, rz, rd, rT, rR, rN, rA, rF, rC, rO, rB, rY, rP, rb, rfl, ⟨s1, s2, s3, s4, s5, s6⟩, hB, hrx, hrw, hrz, hrk, hrl, hrd⟩ := hR
  have hm : m ≤ 200 := s4.1
  have hkn : kn ≤ 200 := s5.1
  have hL : L ≤ 120 := s1
  have s3 : n ≤ m := s3
  have hn : n ≤ 200 := Nat.le_trans s3 s4.1
  have s6 : fn ≤ 8 := s6
  have hrx : ∀ j, j < m → rx j = nI (cd j) := hrx
  have hrw : ∀ j, j ≤ m → wt j = bt (Q j) := hrw
  have hrl : ∀ j, j < fn → rl j = fr j := hrl
  have hrd : ∀ j, j < 12 → rd j = tal j := hrd
  have hQn : wt n = bt (Q n) := hrw n s3
  have hVn : Vq (Q n) := s4.2.2.1 n s3
  refine semP_of (by decide) (Nat.le_of_ble_eq_true rfl) rfl ?_
  have hcd := s4.2.1
  have hT : (txt cd n).length ≤ 3600 := dtx_len (fun j hj => hcd j (by omega)) 200 0
  have hTe : txt cd n = dtx cd (fun j => nI (cd j)) n 200 0 := rfl
  have hcx : ∀ j, j < n → rx j = nI (cd j) := fun j hj => hrx j (by omega)
  generalize hdc : (fun j => nI (cd j)) = dc at hTe
  have hdj : ∀ j, dc j = nI (cd j) := fun j => by rw [← hdc]
  generalize txt cd n = T at hT hTe h ⊢
  generalize hw0 : (R, mW rc rf ro rt ru rm rg rp rq ry rl (nI fn) (fz) (wt) rk rx rz rd (nI n) (nI (m - n)) (rkI ik kn) rT rR (nI L) rN rA rF rC rO rB rY rP rb) = w0
  have F : ∀ (y2 y3 : Option Value), Rp mX9_text 9 0 0 w0 (Top (-2) (RI L b n m cd Q ik kn kc kQ fn fr fz tal R)) 0 0 151 [some (.ref 100), some (.int (nI i0)), y2, y3] [] (R, mW rc rf ro rt ru rm rg rp rq ry rl (nI fn) (fz) (wt) rk rx rz rd (nI n) (nI (m - n)) (rkI ik kn) rT rR (nI L) rN rA rF rC rO rB rY (putL rP (T)) (nI (T).length)) := by
    intro y2 y3
    refine r_iload_n dX9_text_151 rfl ?_
    refine r_if_ge 162 dX9_text_152 (by decide) (fun h152 => ?_) (fun h152 => ?_)
    · refine r_pc 162 rfl ?_
      refine r_iload_n dX9_text_162 rfl ?_
      refine r_aload_n dX9_text_163 rfl ?_
      refine r_get dX9_text_164 fX9_285 rfl rfl ?_
      refine r_icmp_geN 179 dX9_text_167 (by decide) (by omega) (by omega) (fun h167 => ?_) (fun h167 => ?_)
      · refine r_pc 179 rfl ?_
        refine r_bipush (v := (-2)) dX9_text_179 (by decide) ?_
        exact r_iretP dX9_text_181 rfl ⟨rfl, _, _, _, _, _, _, _, _, _, _, _, _, _, _, _, _, _, _, _, _, _, _, _, _, _, _, _, rfl, ⟨⟨s1, s2, s3, s4, s5, s6⟩, hB, hrx, hrw, hrz, hrk, hrl, hrd⟩⟩
      · exact absurd h167 (by omega)
    · exact absurd (nI_pos' (by omega)) h152
  have Lp : ∀ (f i : Nat) (p : List Nat) (y3 : Option Int32), n ≤ i + f → i < 2 ^ 30 → p ++ dtx cd dc n f i = T → Rp mX9_text 9 0 0 w0 (Top (-2) (RI L b n m cd Q ik kn kc kQ fn fr fz tal R)) 0 0 14 [some (.ref 100), some (.int (nI i0)), some (.int (nI i)), y3.map .int] [] (R, mW rc rf ro rt ru rm rg rp rq ry rl (nI fn) (fz) (wt) rk rx rz rd (nI n) (nI (m - n)) (rkI ik kn) rT rR (nI L) rN rA rF rC rO rB rY (putL rP (p)) (nI (p).length)) := by
    intro f
    induction f with
    | zero =>
      intro i p y3 hi hi2 he
      have he : p = T := by rw [← he]; simp [dtx]
      subst he
      refine r_iload_n dX9_text_14 rfl ?_
      refine r_aload_n dX9_text_15 rfl ?_
      refine r_get dX9_text_16 fX9_144 rfl rfl ?_
      refine r_icmp_geN 151 dX9_text_19 (by decide) (by omega) (by omega) (fun h19 => ?_) (fun h19 => ?_)
      · refine r_pc 151 rfl ?_
        refine r_pc 151 rfl ?_
        exact F _ _
      · exact absurd h19 (by omega)
    | succ f ih =>
      intro i p y3 hi hi2 he
      unfold dtx at he
      by_cases hin : i < n
      · rw [if_pos hin] at he
        have ei : rx i = nI (cd i) := hcx i hin
        obtain ⟨c1, c2⟩ := hcd i (by omega)
        obtain ⟨q1, q2⟩ := sameN_at dc n i
        generalize ht : sameN dc n i = t at he q1 q2
        generalize hD : dtx cd dc n f (i + t) = D at he
        have S144 : ∀ p, p ++ D = T → Rp mX9_text 9 0 0 w0 (Top (-2) (RI L b n m cd Q ik kn kc kQ fn fr fz tal R)) 0 0 144 [some (.ref 100), some (.int (nI i0)), some (.int (nI i)), some (.int (nI t))] [] (R, mW rc rf ro rt ru rm rg rp rq ry rl (nI fn) (fz) (wt) rk rx rz rd (nI n) (nI (m - n)) (rkI ik kn) rT rR (nI L) rN rA rF rC rO rB rY (putL rP (p)) (nI (p).length)) := by
          intro p he
          rw [← hD] at he
          have ih := ih (i + t) p (some (nI t)) (by omega) (by omega) he
          refine r_iload_n dX9_text_144 rfl ?_
          refine r_iload_n dX9_text_145 rfl ?_
          refine r_iaddN dX9_text_146 ?_
          refine r_istore_n (ls' := [_, _, _, _]) dX9_text_147 (by decide) rfl ?_
          refine r_goto 14 dX9_text_148 (by decide) ?_
          refine r_pc 14 rfl ?_
          exact ih
        have S125 : ∀ p, p ++ ((if t ≤ 1 then [] else [32, 48 + t]) ++ D) = T → Rp mX9_text 9 0 0 w0 (Top (-2) (RI L b n m cd Q ik kn kc kQ fn fr fz tal R)) 0 0 125 [some (.ref 100), some (.int (nI i0)), some (.int (nI i)), some (.int (nI t))] [] (R, mW rc rf ro rt ru rm rg rp rq ry rl (nI fn) (fz) (wt) rk rx rz rd (nI n) (nI (m - n)) (rkI ik kn) rT rR (nI L) rN rA rF rC rO rB rY (putL rP (p)) (nI (p).length)) := by
          intro p he
          by_cases ht1 : t ≤ 1
          · rw [if_pos ht1, List.nil_append] at he
            have S := S144 p he
            refine r_iload_n dX9_text_125 rfl ?_
            refine r_iconst (v := (nI 1)) dX9_text_126 (by decide) ?_
            refine r_icmp_leN 144 dX9_text_127 (by decide) (by omega) (by omega) (fun h127 => ?_) (fun h127 => ?_)
            · refine r_pc 144 rfl ?_
              refine r_pc 144 rfl ?_
              exact S
            · exact absurd h127 (by omega)
          · rw [if_neg ht1] at he
            have hl := congrArg List.length he
            simp at hl
            have S := S144 (p ++ [32] ++ [48 + t]) (by rw [← he]; simp)
            have hl1 : p.length < 4000 := by omega
            have hl2 : (p ++ [32]).length < 4000 := by simp; omega
            refine r_iload_n dX9_text_125 rfl ?_
            refine r_iconst (v := (nI 1)) dX9_text_126 (by decide) ?_
            refine r_icmp_leN 144 dX9_text_127 (by decide) (by omega) (by omega) (fun h127 => ?_) (fun h127 => ?_)
            · exact absurd h127 ht1
            · refine r_pc 130 rfl ?_
              refine r_aload_n dX9_text_130 rfl ?_
              refine r_bipush (v := (nI 32)) dX9_text_131 (by decide) ?_
              refine r_cVv dX9_text_133 (m_prints hl1) lX9_288 rfl rfl rfl (by decide) ⟨Nat.le_refl _, Nat.le_refl _⟩ (Nat.le_of_ble_eq_true rfl) ?_
              refine r_aload_n dX9_text_136 rfl ?_
              refine r_bipush (v := (nI 48)) dX9_text_137 (by decide) ?_
              refine r_pc 139 rfl ?_
              refine r_iload_n dX9_text_139 rfl ?_
              refine r_iaddN dX9_text_140 ?_
              refine r_cVv dX9_text_141 (m_prints hl2) lX9_288 rfl rfl rfl (by decide) ⟨Nat.le_refl _, Nat.le_refl _⟩ (Nat.le_of_ble_eq_true rfl) ?_
              refine r_pc 144 rfl ?_
              exact S
        have S107 : ∀ p, p ++ (zs (9 + cd i % 100) ++ ((if t ≤ 1 then [] else [32, 48 + t]) ++ D)) = T → Rp mX9_text 9 0 0 w0 (Top (-2) (RI L b n m cd Q ik kn kc kQ fn fr fz tal R)) 0 0 107 [some (.ref 100), some (.int (nI i0)), some (.int (nI i)), some (.int (nI t))] [] (R, mW rc rf ro rt ru rm rg rp rq ry rl (nI fn) (fz) (wt) rk rx rz rd (nI n) (nI (m - n)) (rkI ik kn) rT rR (nI L) rN rA rF rC rO rB rY (putL rP (p)) (nI (p).length)) := by
          intro p he
          have hl := congrArg List.length he
          simp only [List.length_append] at hl
          have S := S125 (p ++ zs (9 + cd i % 100)) (by rw [← he, List.append_assoc])
          have hg : (fun j => some (2009 + j)) (cd i % 100) = some (2000 + (9 + cd i % 100)) := congrArg some (by omega)
          refine r_aload_n dX9_text_107 rfl ?_
          refine r_aload_n dX9_text_108 rfl ?_
          refine r_get dX9_text_109 fX9_57 rfl rfl ?_
          refine r_aload_n dX9_text_112 rfl ?_
          refine r_get dX9_text_113 fX9_96 rfl rfl ?_
          refine r_pc 116 rfl ?_
          refine r_iload_n dX9_text_116 rfl ?_
          refine r_iald dX9_text_117 rfl rfl (by omega) (by decide) ?_
          refine r_topi _ ei ?_
          refine r_bipush (v := (nI 100)) dX9_text_118 (by decide) ?_
          refine r_iremN dX9_text_120 (by omega) (by decide) (by decide) ?_
          refine r_aald dX9_text_121 (n := 12) rfl rfl c2 (by decide) hg ?_
          refine r_pc 122 rfl ?_
          refine r_cVv dX9_text_122 (m_printsS (by omega) (by omega)) lX9_291 rfl rfl rfl (by decide) ⟨Nat.le_refl _, Nat.le_refl _⟩ (Nat.le_of_ble_eq_true rfl) ?_
          refine r_pc 125 rfl ?_
          exact S
        have S72 : ∀ p, p ++ ((if cd i / 100 = 0 then [] else zs (cd i / 100) ++ [32]) ++ (zs (9 + cd i % 100) ++ ((if t ≤ 1 then [] else [32, 48 + t]) ++ D))) = T → Rp mX9_text 9 0 0 w0 (Top (-2) (RI L b n m cd Q ik kn kc kQ fn fr fz tal R)) 0 0 72 [some (.ref 100), some (.int (nI i0)), some (.int (nI i)), some (.int (nI t))] [] (R, mW rc rf ro rt ru rm rg rp rq ry rl (nI fn) (fz) (wt) rk rx rz rd (nI n) (nI (m - n)) (rkI ik kn) rT rR (nI L) rN rA rF rC rO rB rY (putL rP (p)) (nI (p).length)) := by
          intro p he
          have hl := congrArg List.length he
          simp only [List.length_append] at hl
          by_cases hw : cd i / 100 = 0
          · rw [if_pos hw, List.nil_append] at he
            have S := S107 p he
            refine r_aload_n dX9_text_72 rfl ?_
            refine r_get dX9_text_73 fX9_96 rfl rfl ?_
            refine r_iload_n dX9_text_76 rfl ?_
            refine r_iald dX9_text_77 rfl rfl (by omega) (by decide) ?_
            refine r_topi _ ei ?_
            refine r_bipush (v := (nI 100)) dX9_text_78 (by decide) ?_
            refine r_pc 80 rfl ?_
            refine r_icmp_ltN 107 dX9_text_80 (by decide) (by omega) (by omega) (fun h80 => ?_) (fun h80 => ?_)
            · refine r_pc 107 rfl ?_
              refine r_pc 107 rfl ?_
              exact S
            · exact absurd h80 (by omega)
          · rw [if_neg hw] at he hl
            simp only [List.length_append, List.length_cons, List.length_nil] at hl
            have S := S107 (p ++ zs (cd i / 100) ++ [32]) (by rw [← he]; simp)
            have hg : (fun j => some (2000 + j)) (cd i / 100) = some (2000 + cd i / 100) := rfl
            have hl2 : (p ++ zs (cd i / 100)).length < 4000 := by rw [List.length_append]; omega
            refine r_aload_n dX9_text_72 rfl ?_
            refine r_get dX9_text_73 fX9_96 rfl rfl ?_
            refine r_iload_n dX9_text_76 rfl ?_
            refine r_iald dX9_text_77 rfl rfl (by omega) (by decide) ?_
            refine r_topi _ ei ?_
            refine r_bipush (v := (nI 100)) dX9_text_78 (by decide) ?_
            refine r_pc 80 rfl ?_
            refine r_icmp_ltN 107 dX9_text_80 (by decide) (by omega) (by omega) (fun h80 => ?_) (fun h80 => ?_)
            · exact absurd h80 (by omega)
            · refine r_pc 83 rfl ?_
              refine r_aload_n dX9_text_83 rfl ?_
              refine r_aload_n dX9_text_84 rfl ?_
              refine r_get dX9_text_85 fX9_27 rfl rfl ?_
              refine r_aload_n dX9_text_88 rfl ?_
              refine r_get dX9_text_89 fX9_96 rfl rfl ?_
              refine r_pc 92 rfl ?_
              refine r_iload_n dX9_text_92 rfl ?_
              refine r_iald dX9_text_93 rfl rfl (by omega) (by decide) ?_
              refine r_topi _ ei ?_
              refine r_bipush (v := (nI 100)) dX9_text_94 (by decide) ?_
              refine r_idivN dX9_text_96 (by omega) (by decide) (by decide) ?_
              refine r_aald dX9_text_97 (n := 9) rfl rfl c1 (by decide) hg ?_
              refine r_pc 98 rfl ?_
              refine r_cVv dX9_text_98 (m_printsS (by omega) (by omega)) lX9_291 rfl rfl rfl (by decide) ⟨Nat.le_refl _, Nat.le_refl _⟩ (Nat.le_of_ble_eq_true rfl) ?_
              refine r_aload_n dX9_text_101 rfl ?_
              refine r_bipush (v := (nI 32)) dX9_text_102 (by decide) ?_
              refine r_cVv dX9_text_104 (m_prints hl2) lX9_288 rfl rfl rfl (by decide) ⟨Nat.le_refl _, Nat.le_refl _⟩ (Nat.le_of_ble_eq_true rfl) ?_
              refine r_pc 107 rfl ?_
              exact S
        have S62 : Rp mX9_text 9 0 0 w0 (Top (-2) (RI L b n m cd Q ik kn kc kQ fn fr fz tal R)) 0 0 62 [some (.ref 100), some (.int (nI i0)), some (.int (nI i)), some (.int (nI t))] [] (R, mW rc rf ro rt ru rm rg rp rq ry rl (nI fn) (fz) (wt) rk rx rz rd (nI n) (nI (m - n)) (rkI ik kn) rT rR (nI L) rN rA rF rC rO rB rY (putL rP (p)) (nI (p).length)) := by
          unfold callB at he
          by_cases hi0 : i = 0
          · rw [if_pos hi0, List.nil_append, List.append_assoc, List.append_assoc] at he
            have S := S72 p he
            refine r_iload_n dX9_text_62 rfl ?_
            refine r_if_le 72 dX9_text_63 (by decide) (fun h63 => ?_) (fun h63 => ?_)
            · refine r_pc 72 rfl ?_
              refine r_pc 72 rfl ?_
              exact S
            · exact absurd (by rw [hi0]; decide) h63
          · rw [if_neg hi0, List.append_assoc, List.append_assoc] at he
            have hl := congrArg List.length he
            simp only [List.length_append, List.length_cons, List.length_nil] at hl
            have S := S72 (p ++ [44]) (by rw [← he]; simp)
            have hl1 : p.length < 4000 := by omega
            refine r_iload_n dX9_text_62 rfl ?_
            refine r_if_le 72 dX9_text_63 (by decide) (fun h63 => ?_) (fun h63 => ?_)
            · exact absurd h63 (nI_nle (by omega) (by omega))
            · refine r_pc 66 rfl ?_
              refine r_aload_n dX9_text_66 rfl ?_
              refine r_bipush (v := (nI 44)) dX9_text_67 (by decide) ?_
              refine r_cVv dX9_text_69 (m_prints hl1) lX9_288 rfl rfl rfl (by decide) ⟨Nat.le_refl _, Nat.le_refl _⟩ (Nat.le_of_ble_eq_true rfl) ?_
              refine r_pc 72 rfl ?_
              exact S
        have Lt : ∀ (g u : Nat), u + g = 4 → 1 ≤ u → sfx dc n i g u = t → Rp mX9_text 9 0 0 w0 (Top (-2) (RI L b n m cd Q ik kn kc kQ fn fr fz tal R)) 0 0 24 [some (.ref 100), some (.int (nI i0)), some (.int (nI i)), some (.int (nI u))] [] (R, mW rc rf ro rt ru rm rg rp rq ry rl (nI fn) (fz) (wt) rk rx rz rd (nI n) (nI (m - n)) (rkI ik kn) rT rR (nI L) rN rA rF rC rO rB rY (putL rP (p)) (nI (p).length)) := by
          intro g
          induction g with
          | zero =>
            intro u hu hu1 hs
            have : u = t := hs
            rw [this] at hu ⊢
            refine r_iload_n dX9_text_24 rfl ?_
            refine r_iconst (v := (nI 4)) dX9_text_25 (by decide) ?_
            refine r_icmp_geN 62 dX9_text_26 (by decide) (by omega) (by omega) (fun h26 => ?_) (fun h26 => ?_)
            · refine r_pc 62 rfl ?_
              refine r_pc 62 rfl ?_
              exact S62
            · exact absurd h26 (by omega)
          | succ g ih2 =>
            intro u hu hu1 hs
            unfold sfx at hs
            by_cases hiu : i + u < n
            · have eu : rx (i + u) = nI (cd (i + u)) := hcx _ hiu
              have hc9 := hcd (i + u) (by omega)
              by_cases hcc : cd (i + u) = cd i
              · rw [if_pos ⟨hiu, by rw [hdj, hdj, hcc]⟩] at hs
                have ih2 := ih2 (u + 1) (by omega) (by omega) hs
                refine r_iload_n dX9_text_24 rfl ?_
                refine r_iconst (v := (nI 4)) dX9_text_25 (by decide) ?_
                refine r_icmp_geN 62 dX9_text_26 (by decide) (by omega) (by omega) (fun h26 => ?_) (fun h26 => ?_)
                · exact absurd h26 (by omega)
                · refine r_pc 29 rfl ?_
                  refine r_iload_n dX9_text_29 rfl ?_
                  refine r_iload_n dX9_text_30 rfl ?_
                  refine r_iaddN dX9_text_31 ?_
                  refine r_aload_n dX9_text_32 rfl ?_
                  refine r_get dX9_text_33 fX9_144 rfl rfl ?_
                  refine r_pc 36 rfl ?_
                  refine r_icmp_geN 62 dX9_text_36 (by decide) (by omega) (by omega) (fun h36 => ?_) (fun h36 => ?_)
                  · exact absurd h36 (by omega)
                  · refine r_pc 39 rfl ?_
                    refine r_aload_n dX9_text_39 rfl ?_
                    refine r_get dX9_text_40 fX9_96 rfl rfl ?_
                    refine r_iload_n dX9_text_43 rfl ?_
                    refine r_iload_n dX9_text_44 rfl ?_
                    refine r_iaddN dX9_text_45 ?_
                    refine r_pc 46 rfl ?_
                    refine r_iald dX9_text_46 rfl rfl (by omega) (by decide) ?_
                    refine r_topi _ eu ?_
                    refine r_aload_n dX9_text_47 rfl ?_
                    refine r_get dX9_text_48 fX9_96 rfl rfl ?_
                    refine r_iload_n dX9_text_51 rfl ?_
                    refine r_iald dX9_text_52 rfl rfl (by omega) (by decide) ?_
                    refine r_pc 53 rfl ?_
                    refine r_topi _ ei ?_
                    refine r_icmp_neN 62 dX9_text_53 (by decide) (by omega) (by omega) (fun h53 => ?_) (fun h53 => ?_)
                    · exact absurd hcc h53
                    · refine r_pc 56 rfl ?_
                      refine r_inc1 (ls' := [_, _, _, _]) dX9_text_56 (by decide) rfl rfl ?_
                      refine r_goto 24 dX9_text_59 (by decide) ?_
                      refine r_pc 24 rfl ?_
                      exact ih2
              · rw [if_neg (fun z => hcc ((nI_eq (by omega) (by omega)).mp (by rw [← hdj, ← hdj]; exact z.2)))] at hs
                subst hs
                refine r_iload_n dX9_text_24 rfl ?_
                refine r_iconst (v := (nI 4)) dX9_text_25 (by decide) ?_
                refine r_icmp_geN 62 dX9_text_26 (by decide) (by omega) (by omega) (fun h26 => ?_) (fun h26 => ?_)
                · exact absurd h26 (by omega)
                · refine r_pc 29 rfl ?_
                  refine r_iload_n dX9_text_29 rfl ?_
                  refine r_iload_n dX9_text_30 rfl ?_
                  refine r_iaddN dX9_text_31 ?_
                  refine r_aload_n dX9_text_32 rfl ?_
                  refine r_get dX9_text_33 fX9_144 rfl rfl ?_
                  refine r_pc 36 rfl ?_
                  refine r_icmp_geN 62 dX9_text_36 (by decide) (by omega) (by omega) (fun h36 => ?_) (fun h36 => ?_)
                  · exact absurd h36 (by omega)
                  · refine r_pc 39 rfl ?_
                    refine r_aload_n dX9_text_39 rfl ?_
                    refine r_get dX9_text_40 fX9_96 rfl rfl ?_
                    refine r_iload_n dX9_text_43 rfl ?_
                    refine r_iload_n dX9_text_44 rfl ?_
                    refine r_iaddN dX9_text_45 ?_
                    refine r_pc 46 rfl ?_
                    refine r_iald dX9_text_46 rfl rfl (by omega) (by decide) ?_
                    refine r_topi _ eu ?_
                    refine r_aload_n dX9_text_47 rfl ?_
                    refine r_get dX9_text_48 fX9_96 rfl rfl ?_
                    refine r_iload_n dX9_text_51 rfl ?_
                    refine r_iald dX9_text_52 rfl rfl (by omega) (by decide) ?_
                    refine r_pc 53 rfl ?_
                    refine r_topi _ ei ?_
                    refine r_icmp_neN 62 dX9_text_53 (by decide) (by omega) (by omega) (fun h53 => ?_) (fun h53 => ?_)
                    · refine r_pc 62 rfl ?_
                      refine r_pc 62 rfl ?_
                      exact S62
                    · exact absurd h53 hcc
            · rw [if_neg (fun z => hiu z.1)] at hs
              subst hs
              refine r_iload_n dX9_text_24 rfl ?_
              refine r_iconst (v := (nI 4)) dX9_text_25 (by decide) ?_
              refine r_icmp_geN 62 dX9_text_26 (by decide) (by omega) (by omega) (fun h26 => ?_) (fun h26 => ?_)
              · exact absurd h26 (by omega)
              · refine r_pc 29 rfl ?_
                refine r_iload_n dX9_text_29 rfl ?_
                refine r_iload_n dX9_text_30 rfl ?_
                refine r_iaddN dX9_text_31 ?_
                refine r_aload_n dX9_text_32 rfl ?_
                refine r_get dX9_text_33 fX9_144 rfl rfl ?_
                refine r_pc 36 rfl ?_
                refine r_icmp_geN 62 dX9_text_36 (by decide) (by omega) (by omega) (fun h36 => ?_) (fun h36 => ?_)
                · refine r_pc 62 rfl ?_
                  refine r_pc 62 rfl ?_
                  exact S62
                · exact absurd h36 (by omega)
        have Lt := Lt 3 1 (by decide) (by decide) ht
        refine r_iload_n dX9_text_14 rfl ?_
        refine r_aload_n dX9_text_15 rfl ?_
        refine r_get dX9_text_16 fX9_144 rfl rfl ?_
        refine r_icmp_geN 151 dX9_text_19 (by decide) (by omega) (by omega) (fun h19 => ?_) (fun h19 => ?_)
        · exact absurd h19 (by omega)
        · refine r_pc 22 rfl ?_
          refine r_iconst (v := (nI 1)) dX9_text_22 (by decide) ?_
          refine r_istore_n (ls' := [_, _, _, _]) dX9_text_23 (by decide) rfl ?_
          refine r_pc 24 rfl ?_
          exact Lt
      · rw [if_neg hin, List.append_nil] at he
        subst he
        refine r_iload_n dX9_text_14 rfl ?_
        refine r_aload_n dX9_text_15 rfl ?_
        refine r_get dX9_text_16 fX9_144 rfl rfl ?_
        refine r_icmp_geN 151 dX9_text_19 (by decide) (by omega) (by omega) (fun h19 => ?_) (fun h19 => ?_)
        · refine r_pc 151 rfl ?_
          refine r_pc 151 rfl ?_
          exact F _ _
        · exact absurd h19 (by omega)
  subst hw0
  refine r_iload_n dX9_text_0 rfl ?_
  refine r_iconst (v := (-1)) dX9_text_1 (by decide) ?_
  refine r_icmp_ge 7 dX9_text_2 (by decide) (fun h2 => ?_) (fun h2 => ?_)
  · refine r_pc 7 rfl ?_
    refine r_aload_n dX9_text_7 rfl ?_
    refine r_iconst (v := (nI 0)) dX9_text_8 (by decide) ?_
    refine r_put (w2 := (_, mW _ _ _ _ _ _ _ _ _ _ _ _ _ _ _ _ _ _ _ _ _ _ _ _ _ _ _ _ _ _ _ _ _)) dX9_text_9 fX9_285 rfl rfl (Nat.le_of_ble_eq_true rfl) (fun _ => rfl) (fun _ => rfl) rfl ?_
    refine r_iconst (v := (nI 0)) dX9_text_12 (by decide) ?_
    refine r_istore_n (ls' := [_, _, _, _]) dX9_text_13 (by decide) rfl ?_
    refine r_pc 14 rfl ?_
    refine r_pc 14 rfl ?_
    refine r_w (R, mW rc rf ro rt ru rm rg rp rq ry rl (nI fn) (fz) (wt) rk rx rz rd (nI n) (nI (m - n)) (rkI ik kn) rT rR (nI L) rN rA rF rC rO rB rY (putL rP (([] : List Nat))) (nI (([] : List Nat)).length)) (by rw [putL_nil]; rfl) ?_
    exact Lp 200 0 [] none (by omega) (by decide) (by rw [hTe]; rfl)
  · exact absurd (ge_m1.mpr (nI_ge_m1 _ (by omega))) h2
end D6
