/-! ===== what is made: places of new cells ===== -/
def noR (p : Nat) (v : Value) : Bool := match v with
  | .ref q => !(Nat.beq q p)
  | _ => true
def noE (p : Nat) (e : AE) : Prop := match e with
  | .inr o => o.2.all (noR p) = true
  | .inl (_, _, .inr (.inr (.inr (.inr f)))) => ∀ j, ¬ f j = some p
  | .inl _ => True
def noL (p : Nat) : List AE → Prop
  | [] => True
  | e :: l => noE p e ∧ noL p l
def noO (p : Nat) (o : Option Value) : Bool := match o with
  | none => true
  | some v => noR p v
theorem cv_up {ad : Nat → Nat} {p q : Nat} {v : Value} (h : noR p v = true) : cv (up ad p q) v = cv ad v := by
  cases v with
  | ref x =>
    have hx : ¬ x = p := fun z => by
      subst z
      have : (!(Nat.beq x x)) = true := h
      rw [Nat.beq_refl] at this
      cases this
    show Value.ref (up ad p q x) = Value.ref (ad x)
    unfold up
    rw [if_neg hx]
  | _ => rfl
theorem cvm_up {ad : Nat → Nat} {p q : Nat} : ∀ {l : List Value}, l.all (noR p) = true → l.map (cv (up ad p q)) = l.map (cv ad)
  | [], _ => rfl
  | v :: l, h => by
    rw [List.all_cons, Bool.and_eq_true] at h
    rw [List.map_cons, List.map_cons, cv_up h.1, cvm_up h.2]
theorem ce_up {ad : Nat → Nat} {cA : Nat → ClassId} {p q : Nat} : ∀ {e : AE}, noE p e → ce (up ad p q) cA e = ce ad cA e
  | .inr o, h => by
    show Sum.inr (o.1, o.2.map (cv (up ad p q))) = Sum.inr (o.1, o.2.map (cv ad))
    rw [cvm_up h]
  | .inl (_, _, .inl f), _ => rfl
  | .inl (_, _, .inr (.inl f)), _ => rfl
  | .inl (_, _, .inr (.inr (.inl f))), _ => rfl
  | .inl (_, _, .inr (.inr (.inr (.inl f)))), _ => rfl
  | .inl (t, n, .inr (.inr (.inr (.inr f)))), h => by
    have e : (fun j => (f j).map (up ad p q)) = fun j => (f j).map ad := by
      funext j
      cases hf : f j with
      | none => rfl
      | some x =>
        have hx : ¬ x = p := fun z => h j (by rw [hf, z])
        show some (up ad p q x) = some (ad x)
        unfold up
        rw [if_neg hx]
    show Sum.inl (cA t, (n, Sum.inr (Sum.inr (Sum.inr (Sum.inr (fun j => (f j).map (up ad p q))))))) = _
    rw [e]
    rfl
theorem cwl_up {ad : Nat → Nat} {cA : Nat → ClassId} {p q : Nat} : ∀ {l : List AE} {i : Nat}, noL p l → (p < i ∨ i + l.length ≤ p) → cwl (up ad p q) cA i l = cwl ad cA i l
  | [], _, _, _ => rfl
  | e :: l, i, h, hi => by
    rw [List.length_cons] at hi
    have hx : ¬ i = p := fun z => by omega
    show (up ad p q i, ce (up ad p q) cA e) :: cwl (up ad p q) cA (i + 1) l = (ad i, ce ad cA e) :: cwl ad cA (i + 1) l
    rw [ce_up h.1, cwl_up h.2 (by omega)]
    unfold up
    rw [if_neg hx]
theorem lsl_up {ad : Nat → Nat} {p q : Nat} : ∀ {l : List (Option Value)} {i : Nat}, l.all (noO p) = true → lsl (up ad p q) i l = lsl ad i l
  | [], _, _ => rfl
  | none :: l, i, h => by
    rw [List.all_cons, Bool.and_eq_true] at h
    exact lsl_up (i := i + 1) h.2
  | some v :: l, i, h => by
    rw [List.all_cons, Bool.and_eq_true] at h
    show (i, cv (up ad p q) v) :: lsl (up ad p q) (i + 1) l = (i, cv ad v) :: lsl ad (i + 1) l
    rw [cv_up h.1, lsl_up h.2]
/-- a cell more: the class's while the reference has none, or the reference's -/
def Grow (w : WD) (e : AE) (p : Nat) (w2 : WD) : Prop := w.1.length ≤ 100 ∧ ((w.2 = [] ∧ p = w.1.length ∧ p < 100 ∧ w2 = (w.1 ++ [e], [])) ∨ (p = 100 + w.2.length ∧ w2 = (w.1, w.2 ++ [e])))
def Fr (p : Nat) (w : WD) (ls : List (Option Value)) (st : List Value) : Prop := p < 1000 ∧ noL p w.1 ∧ noL p w.2 ∧ ls.all (noO p) = true ∧ st.all (noR p) = true
theorem grow_cw {ad : Nat → Nat} {cA : Nat → ClassId} {w w2 : WD} {e : AE} {p q : Nat} {ls : List (Option Value)} {st : List Value} (hG : Grow w e p w2) (hf : Fr p w ls st) (he : noE p e) : cw (up ad p q) cA w2 = cw ad cA w ++ [(q, ce ad cA e)] := by
  obtain ⟨hl, hG⟩ := hG
  obtain ⟨hp, h1, h2, -, -⟩ := hf
  have hu : up ad p q p = q := if_pos rfl
  rcases hG with ⟨e1, e2, e3, rfl⟩ | ⟨e2, rfl⟩
  · unfold cw
    dsimp only
    rw [cwl_app, cwl_up h1 (Or.inr (by omega)), e1]
    show cwl ad cA 0 w.1 ++ [(up ad p q (0 + w.1.length), ce (up ad p q) cA e)] ++ [] = cwl ad cA 0 w.1 ++ [] ++ [(q, ce ad cA e)]
    rw [Nat.zero_add, ← e2, hu, ce_up he, List.append_nil, List.append_nil]
  · unfold cw
    dsimp only
    rw [cwl_app, cwl_up h1 (Or.inr (by omega)), cwl_up h2 (Or.inr (by omega))]
    show cwl ad cA 0 w.1 ++ (cwl ad cA 100 w.2 ++ [(up ad p q (100 + w.2.length), ce (up ad p q) cA e)]) = _
    rw [← e2, hu, ce_up he, List.append_assoc]
theorem ag_up {mc : Nat} {w0 : WD} {ad0 ad : Nat → Nat} {p q : Nat} (h : Ag mc w0 ad0 ad) (hm : ¬ mc = 0) (h0 : wg w0 p = none) (hp : p < 1000) : Ag mc w0 ad0 (up ad p q) := by
  refine ⟨fun z => absurd z hm, fun x hx => ?_⟩
  have hne : ¬ x = p := fun z => by
    subst z
    rcases hx with z | z
    · exact z h0
    · omega
  unfold up
  rw [if_neg hne]
  exact h.2 x hx
section RG
variable {Z : ZT} {X : XT} {M : MI} {k mc ms : Nat} {w0 : WD} {nc ns pc : Nat} {ls : List (Option Value)} {st : List Value} {w w2 : WD}
theorem ac_int : Cond.arrayClass .int ∈ lw_gd := gd_mem (List.mem_of_getElem? (i := 104) (by decide +kernel)) rfl
theorem ac_long : Cond.arrayClass .long ∈ lw_gd := gd_mem (List.mem_of_getElem? (i := 179) (by decide +kernel)) rfl
theorem ac_boolean : Cond.arrayClass .boolean ∈ lw_gd := gd_mem (List.mem_of_getElem? (i := 878) (by decide +kernel)) rfl
def z32 : Nat → Int32 := fun _ => 0
def z64 : Nat → Int64 := fun _ => 0
theorem r_newaI {N p : Nat} (hd : decode M.2.1 pc = .ok (.newarray .int, 2)) (hN : N < 2 ^ 20) (hG : Grow w (.inl (0, N, .inl z32)) p w2) (hw0 : wg w0 p = none) (hf : Fr p w ls st) (hnc : nc + 1 ≤ mc ∧ ns + N ≤ ms) (K : Rq Z X M k mc ms w0 (nc + 1) (ns + N) (pc + 2) ls (.ref p :: st) w2) : Rq Z X M k mc ms w0 nc ns pc ls (.int (nI N) :: st) w := by
  intro p1 l e s m args below meth c D cA ad0 A hC hX ad H locs lsA hg hP hD hS hl
  have hC0 := hC
  obtain ⟨hx, hb, hml, hrt, hlk, hnm, hown, hts, hK, hA, hSt⟩ := hC
  have hcb : N * componentBytes .int ≤ 536870912 := Nat.le_trans (Nat.mul_le_mul_left N (show componentBytes .int ≤ 8 by decide)) (by omega)
  refine va_newa (atype := .int) (ty := .int) hx hb (hts _ ac_int) rfl hK hP hD hS hA (N' := N) (a0 := (N, .inl z32)) (fun _ => rfl) (nI_pos (by omega)) (nI_clamp (by omega)) hcb hnc.1 hnc.2 hd (fun q cA1 H1 hK1 hP1 hD1 hS1 => ?_)
  have e1 : cA1 = cA 0 := by
    have h1 : s.vm.findClass ("[" ++ (FieldType.int).toString) = some cA1 := (hK1.2 4 (cA1, .int) rfl).2
    have h2 : s.vm.findClass ("[" ++ (FieldType.int).toString) = some (cA 0) := (hK.2 0 (cA 0, .int) rfl).2
    rw [h1] at h2
    injection h2
  subst e1
  have hq : cw (up ad p q) cA w2 = cw ad cA w ++ [(q, .inl (cA 0, N, .inl z32))] := by
    rw [grow_cw hG hf trivial]
    rfl
  have hst : (.ref p :: st : List Value).map (cv (up ad p q)) = .ref q :: st.map (cv ad) := by
    rw [List.map_cons, cvm_up hf.2.2.2.2]
    show Value.ref (up ad p q p) :: _ = _
    rw [show up ad p q p = q from if_pos rfl]
  have R := K p1 l e s m args below meth c D cA ad0 A hC0 hX (up ad p q) H1 locs lsA (ag_up hg (by omega) hw0 hf.1) (by rw [hq]; exact hP1) (by rw [hq]; exact hD1) hS1 (by rw [lsl_up hf.2.2.2.1]; exact hl)
  rw [hst] at R
  exact R
theorem r_newaL {N p : Nat} (hd : decode M.2.1 pc = .ok (.newarray .long, 2)) (hN : N < 2 ^ 20) (hG : Grow w (.inl (1, N, .inr (.inl z64))) p w2) (hw0 : wg w0 p = none) (hf : Fr p w ls st) (hnc : nc + 1 ≤ mc ∧ ns + N ≤ ms) (K : Rq Z X M k mc ms w0 (nc + 1) (ns + N) (pc + 2) ls (.ref p :: st) w2) : Rq Z X M k mc ms w0 nc ns pc ls (.int (nI N) :: st) w := by
  intro p1 l e s m args below meth c D cA ad0 A hC hX ad H locs lsA hg hP hD hS hl
  have hC0 := hC
  obtain ⟨hx, hb, hml, hrt, hlk, hnm, hown, hts, hK, hA, hSt⟩ := hC
  have hcb : N * componentBytes .long ≤ 536870912 := Nat.le_trans (Nat.mul_le_mul_left N (show componentBytes .long ≤ 8 by decide)) (by omega)
  refine va_newa (atype := .long) (ty := .long) hx hb (hts _ ac_long) rfl hK hP hD hS hA (N' := N) (a0 := (N, .inr (.inl z64))) (fun _ => rfl) (nI_pos (by omega)) (nI_clamp (by omega)) hcb hnc.1 hnc.2 hd (fun q cA1 H1 hK1 hP1 hD1 hS1 => ?_)
  have e1 : cA1 = cA 1 := by
    have h1 : s.vm.findClass ("[" ++ (FieldType.long).toString) = some cA1 := (hK1.2 4 (cA1, .long) rfl).2
    have h2 : s.vm.findClass ("[" ++ (FieldType.long).toString) = some (cA 1) := (hK.2 1 (cA 1, .long) rfl).2
    rw [h1] at h2
    injection h2
  subst e1
  have hq : cw (up ad p q) cA w2 = cw ad cA w ++ [(q, .inl (cA 1, N, .inr (.inl z64)))] := by
    rw [grow_cw hG hf trivial]
    rfl
  have hst : (.ref p :: st : List Value).map (cv (up ad p q)) = .ref q :: st.map (cv ad) := by
    rw [List.map_cons, cvm_up hf.2.2.2.2]
    show Value.ref (up ad p q p) :: _ = _
    rw [show up ad p q p = q from if_pos rfl]
  have R := K p1 l e s m args below meth c D cA ad0 A hC0 hX (up ad p q) H1 locs lsA (ag_up hg (by omega) hw0 hf.1) (by rw [hq]; exact hP1) (by rw [hq]; exact hD1) hS1 (by rw [lsl_up hf.2.2.2.1]; exact hl)
  rw [hst] at R
  exact R
theorem r_newaZ {N p : Nat} (hd : decode M.2.1 pc = .ok (.newarray .boolean, 2)) (hN : N < 2 ^ 20) (hG : Grow w (.inl (2, N, .inl z32)) p w2) (hw0 : wg w0 p = none) (hf : Fr p w ls st) (hnc : nc + 1 ≤ mc ∧ ns + N ≤ ms) (K : Rq Z X M k mc ms w0 (nc + 1) (ns + N) (pc + 2) ls (.ref p :: st) w2) : Rq Z X M k mc ms w0 nc ns pc ls (.int (nI N) :: st) w := by
  intro p1 l e s m args below meth c D cA ad0 A hC hX ad H locs lsA hg hP hD hS hl
  have hC0 := hC
  obtain ⟨hx, hb, hml, hrt, hlk, hnm, hown, hts, hK, hA, hSt⟩ := hC
  have hcb : N * componentBytes .boolean ≤ 536870912 := Nat.le_trans (Nat.mul_le_mul_left N (show componentBytes .boolean ≤ 8 by decide)) (by omega)
  refine va_newa (atype := .boolean) (ty := .boolean) hx hb (hts _ ac_boolean) rfl hK hP hD hS hA (N' := N) (a0 := (N, .inl z32)) (fun _ => rfl) (nI_pos (by omega)) (nI_clamp (by omega)) hcb hnc.1 hnc.2 hd (fun q cA1 H1 hK1 hP1 hD1 hS1 => ?_)
  have e1 : cA1 = cA 2 := by
    have h1 : s.vm.findClass ("[" ++ (FieldType.boolean).toString) = some cA1 := (hK1.2 4 (cA1, .boolean) rfl).2
    have h2 : s.vm.findClass ("[" ++ (FieldType.boolean).toString) = some (cA 2) := (hK.2 2 (cA 2, .boolean) rfl).2
    rw [h1] at h2
    injection h2
  subst e1
  have hq : cw (up ad p q) cA w2 = cw ad cA w ++ [(q, .inl (cA 2, N, .inl z32))] := by
    rw [grow_cw hG hf trivial]
    rfl
  have hst : (.ref p :: st : List Value).map (cv (up ad p q)) = .ref q :: st.map (cv ad) := by
    rw [List.map_cons, cvm_up hf.2.2.2.2]
    show Value.ref (up ad p q p) :: _ = _
    rw [show up ad p q p = q from if_pos rfl]
  have R := K p1 l e s m args below meth c D cA ad0 A hC0 hX (up ad p q) H1 locs lsA (ag_up hg (by omega) hw0 hf.1) (by rw [hq]; exact hP1) (by rw [hq]; exact hD1) hS1 (by rw [lsl_up hf.2.2.2.1]; exact hl)
  rw [hst] at R
  exact R
theorem r_new {idx ci p : Nat} {fs : List Value} (hd : decode M.2.1 pc = .ok (.new idx, 3)) (hci : ci < 8) (hL : Cond.classLink M.1.cls idx (clC ci) ∈ lw_gd ∧ Cond.instantiable (clC ci) (clN ci) ∈ lw_gd ∧ Cond.initialized (clC ci) ∈ lw_gd) (hfs : (∀ j, j < clN ci → defaultValue (clY ci j) = vp_V fs j) ∧ (∀ ad, fs.map (cv ad) = fs) ∧ fs.all (noR p) = true) (hG : Grow w (.inr (ci, fs)) p w2) (hw0 : wg w0 p = none) (hf : Fr p w ls st) (hnc : nc + 1 ≤ mc ∧ ns + clN ci ≤ ms) (K : Rq Z X M k mc ms w0 (nc + 1) (ns + clN ci) (pc + 3) ls (.ref p :: st) w2) : Rq Z X M k mc ms w0 nc ns pc ls st w := by
  intro p1 l e s m args below meth c D cA ad0 A hC hX ad H locs lsA hg hP hD hS hl
  have hC0 := hC
  obtain ⟨hx, hb, hml, hrt, hlk, hnm, hown, hts, hK, hA, hSt⟩ := hC
  obtain ⟨hcl, hin, hty, hnames⟩ := cl_at ci hci
  refine va_new hx hb hts hin (clY ci) hty hown (hts _ hL.1) (hts _ hL.2.1) (hts _ hL.2.2) hK hP hD hS hA hcl (fs := fs) hfs.1 hnc.1 hnc.2 hd (fun q H1 hP1 hD1 hS1 => ?_)
  have hq : cw (up ad p q) cA w2 = cw ad cA w ++ [(q, .inr (ci, fs))] := by
    rw [grow_cw hG hf hfs.2.2]
    show _ ++ [(q, Sum.inr (ci, fs.map (cv ad)))] = _
    rw [hfs.2.1 ad]
  have hst : (.ref p :: st : List Value).map (cv (up ad p q)) = .ref q :: st.map (cv ad) := by
    rw [List.map_cons, cvm_up hf.2.2.2.2]
    show Value.ref (up ad p q p) :: _ = _
    rw [show up ad p q p = q from if_pos rfl]
  have R := K p1 l e s m args below meth c D cA ad0 A hC0 hX (up ad p q) H1 locs lsA (ag_up hg (by omega) hw0 hf.1) (by rw [hq]; exact hP1) (by rw [hq]; exact hD1) hS1 (by rw [lsl_up hf.2.2.2.1]; exact hl)
  rw [hst] at R
  exact R
theorem r_anew {idx p N : Nat} (hd : decode M.2.1 pc = .ok (.anewarray idx, 3)) (hL : Cond.classLink M.1.cls idx "java/lang/String" ∈ lw_gd) (hN : N < 2 ^ 20) (hG : Grow w (.inl (3, N, .inr (.inr (.inr (.inr (fun _ => none)))))) p w2) (hw0 : wg w0 p = none) (hf : Fr p w ls st) (hnc : nc + 1 ≤ mc ∧ ns + N ≤ ms) (K : Rq Z X M k mc ms w0 (nc + 1) (ns + N) (pc + 3) ls (.ref p :: st) w2) : Rq Z X M k mc ms w0 nc ns pc ls (.int (nI N) :: st) w := by
  intro p1 l e s m args below meth c D cA ad0 A hC hX ad H locs lsA hg hP hD hS hl
  have hC0 := hC
  obtain ⟨hx, hb, hml, hrt, hlk, hnm, hown, hts, hK, hA, hSt⟩ := hC
  refine va_newq hx hb hown (hts _ hL) hSt.2.2.1.2.2 hK hP hD hS hA (N' := N) (nI_pos (by omega)) (nI_clamp (by omega)) (by omega) hnc.1 hnc.2 hd (fun q cA1 H1 hK1 hP1 hD1 hS1 => ?_)
  have e1 : cA1 = cA 3 := by
    obtain ⟨-, -, -, -, -, h1⟩ := (hK1.2 4 (cA1, .object "java/lang/String") rfl).2
    obtain ⟨-, -, -, -, -, h2⟩ := (hK.2 3 (cA 3, .object "java/lang/String") rfl).2
    rw [h1] at h2
    injection h2
  subst e1
  have hq : cw (up ad p q) cA w2 = cw ad cA w ++ [(q, .inl (cA 3, N, .inr (.inr (.inr (.inr (fun _ => none))))))] := by
    rw [grow_cw hG hf (fun j z => by cases z)]
    rfl
  have hst : (.ref p :: st : List Value).map (cv (up ad p q)) = .ref q :: st.map (cv ad) := by
    rw [List.map_cons, cvm_up hf.2.2.2.2]
    show Value.ref (up ad p q p) :: _ = _
    rw [show up ad p q p = q from if_pos rfl]
  have R := K p1 l e s m args below meth c D cA ad0 A hC0 hX (up ad p q) H1 locs lsA (ag_up hg (by omega) hw0 hf.1) (by rw [hq]; exact hP1) (by rw [hq]; exact hD1) hS1 (by rw [lsl_up hf.2.2.2.1]; exact hl)
  rw [hst] at R
  exact R
/-- a text into a row of texts -/
theorem r_aast {q n j i : Nat} {f : Nat → Option Nat} {x : Int32} {t : List Nat} (hd : decode M.2.1 pc = .ok (.aastore, 1)) (hw : wg w q = some (.inl (3, n, .inr (.inr (.inr (.inr f)))))) (hi : x = nI j) (hj : j < n) (hn : n < 2 ^ 31) (ht : zt_str[i]? = some t) (h2 : wput w q (.inl (3, n, .inr (.inr (.inr (.inr (up f j (some (2000 + i)))))))) = w2) (K : Rq Z X M k mc ms w0 nc ns (pc + 1) ls st w2) : Rq Z X M k mc ms w0 nc ns pc ls (.ref (2000 + i) :: .int x :: .ref q :: st) w := by
  subst hi
  intro p1 l e s m args below meth c D cA ad0 A hC hX ad H locs lsA hg hP hD hS hl
  have hC0 := hC
  obtain ⟨hx, hb, hml, hrt, hlk, hnm, hown, hts, hK, hA, hSt⟩ := hC
  obtain ⟨q0, hq, hs⟩ := cw_at (ad := ad) (cA := cA) hw
  have hSt2 : St ad A s H := (hSt.ag (fun q hq => hg.2 q (Or.inr hq))).kept (fun a ha hn => hS.2.1 a ha hn)
  obtain ⟨cell, c1, c2, c3, -⟩ := (hSt2.2.1 i t ht).1
  have hany : va_Any "java/lang/String" s H (ad (2000 + i)) := by
    obtain ⟨kC, hkC, -⟩ := Vm.findClass_spec c3
    refine ⟨cell, c1, c2, ⟨kC, hkC⟩, fun comp hc => ?_⟩
    rw [c3] at hc
    injection hc with hc
    rw [hc]
    exact Vm.assignable_self _ _
  refine va_astqM hx hb hK hP hD hS q0 3 hq rfl hany (vp_in_nI hj hn) hd (fun H1 locs1 hP1 hD1 hS1 => ?_)
  rw [nI_clamp (Nat.lt_trans hj hn)] at hP1 hD1
  have hs2 : (cw ad cA w).set q0 (ad q, .inl (cA 3, n, .inr (.inr (.inr (.inr (va_up (fun j => (f j).map ad) j (some (ad (2000 + i))))))))) = cw ad cA w2 := by
    rw [← h2, ← hs]
    have e9 : va_up (fun j => (f j).map ad) j (some (ad (2000 + i))) = fun y => (up f j (some (2000 + i)) y).map ad := by
      funext y
      unfold va_up up
      split <;> rfl
    rw [e9]
    rfl
  rw [hs2] at hP1 hD1
  exact K p1 l e s m args below meth c D cA ad0 A hC0 hX ad H1 locs1 lsA hg hP1 hD1 hS1 hl
/-- a row of references, as it is below its length -/
theorem r_req {q n : Nat} {f g : Nat → Option Nat} (hw : wg w q = some (.inl (3, n, .inr (.inr (.inr (.inr f)))))) (he : ∀ j, j < n → f j = g j) (h2 : wput w q (.inl (3, n, .inr (.inr (.inr (.inr g))))) = w2) (K : Rq Z X M k mc ms w0 nc ns pc ls st w2) : Rq Z X M k mc ms w0 nc ns pc ls st w := by
  intro p1 l e s m args below meth c D cA ad0 A hC hX ad H locs lsA hg hP hD hS hl
  obtain ⟨q0, hq, hs⟩ := cw_at (ad := ad) (cA := cA) hw
  have hq0 := (List.getElem?_eq_some_iff.mp hq).1
  have hs2 := hs (.inl (3, n, .inr (.inr (.inr (.inr g)))))
  rw [h2] at hs2
  have hcell : vp_cell (cA 3) (ca ad (n, .inr (.inr (.inr (.inr f))))) = vp_cell (cA 3) (ca ad (n, .inr (.inr (.inr (.inr g))))) := by
    show vp_cell (cA 3) (n, .inr (.inr (.inr (.inr (fun j => (f j).map ad))))) = vp_cell (cA 3) (n, .inr (.inr (.inr (.inr (fun j => (g j).map ad)))))
    rw [vp_cell_q, vp_cell_q]
    exact arrV_ext (fun j hj => by rw [he j hj])
  have hP2 : va_P D vwCl (cw ad cA w2) H := by
    rw [← hs2]
    intro i x hx
    by_cases hi : q0 = i
    · subst hi
      rw [List.getElem?_set_self hq0] at hx
      injection hx with hx
      subst hx
      have h0 : H[ad q]? = some (vp_cell (cA 3) (ca ad (n, .inr (.inr (.inr (.inr f)))))) := hP q0 _ hq
      rw [hcell] at h0
      exact h0
    · rw [List.getElem?_set_ne hi] at hx
      exact hP i x hx
  have hD2 : va_D A (cw ad cA w2) := by
    rw [← hs2]
    exact hD.set hq
  exact K p1 l e s m args below meth c D cA ad0 A hC hX ad H locs lsA hg hP2 hD2 hS hl
theorem r_objI {idx q : Nat} (hd : decode M.2.1 pc = .ok (.invokespecial idx, 3)) (hL : Cond.methodLink M.1.cls idx Lib.objectInit ∈ lw_gd) (hi : Cond.instanceMethod Lib.objectInit ∈ lw_gd) (hc : Cond.code Lib.objectInit ⟨#[0xb1]⟩ 1 none ∈ lw_gd) (hk : 1 ≤ k) (hst : (st.map fun v => v.category).sum ≤ 8) (K : Rq Z X M k mc ms w0 nc ns (pc + 3) ls st w) : Rq Z X M k mc ms w0 nc ns pc ls (.ref q :: st) w := by
  intro p1 l e s m args below meth c D cA ad0 A hC hX ad H locs lsA hg hP hD hS hl
  have K := K p1 l e s m args below meth c D cA ad0 A hC hX ad H locs lsA hg hP hD hS hl
  obtain ⟨hx, hb, hml, hrt, hlk, hnm, hown, hts, hK, hA, hSt⟩ := hC
  have hsum : ((st.map (cv ad)).map fun v => v.category).sum ≤ 8 := by rw [cv_sum]; exact hst
  have h8 := lv_room (m := m) (pc := pc) (ls := lsA) (rest := (.ref q :: st : List Value).map (cv ad)) hsum
  refine W.objInit hx hb hown (hts _ hL) (hts _ hi) (hts _ hc) rfl (by rw [hml]; exact hl.1) (a := ad q) (rest := st.map (cv ad)) rfl hd hk (by
    have h9 : (rmk k mc ms).locals = 38 * k := rfl
    rw [h9]
    omega) ?_
  exact K
/-! a constructor of the class's or the reference's own -/
def MLI (own : String) (idx : Nat) (M2 : MI) (n : Nat) : Prop := ML own idx M2 n ∧ M2.1.name = "<init>" ∧ Cond.instanceMethod M2.1 ∈ lw_gd ∧ M2.2.2.2 = none
def oldV (w : WD) (v : Value) : Bool := match v with
  | .ref q => (wg w q).isSome || Nat.ble 1000 q
  | _ => true
def oldO (w : WD) (o : Option Value) : Bool := match o with
  | none => true
  | some v => oldV w v
theorem cv_old {mc : Nat} {w : WD} {ad ad' : Nat → Nat} (h : Ag mc w ad ad') {v : Value} (hv : oldV w v = true) : cv ad' v = cv ad v := by
  cases v with
  | ref q =>
    have hv : ((wg w q).isSome || Nat.ble 1000 q) = true := hv
    rw [Bool.or_eq_true] at hv
    show Value.ref (ad' q) = Value.ref (ad q)
    rw [h.2 q (hv.elim (fun z => Or.inl (fun y => by rw [y] at z; cases z)) (fun z => Or.inr (Nat.le_of_ble_eq_true z)))]
  | _ => rfl
theorem cvm_old {mc : Nat} {w : WD} {ad ad' : Nat → Nat} (h : Ag mc w ad ad') : ∀ {l : List Value}, l.all (oldV w) = true → l.map (cv ad') = l.map (cv ad)
  | [], _ => rfl
  | v :: l, hl => by
    rw [List.all_cons, Bool.and_eq_true] at hl
    rw [List.map_cons, List.map_cons, cv_old h hl.1, cvm_old h hl.2]
theorem lsl_old {mc : Nat} {w : WD} {ad ad' : Nat → Nat} (h : Ag mc w ad ad') : ∀ {l : List (Option Value)} {i : Nat}, l.all (oldO w) = true → lsl ad' i l = lsl ad i l
  | [], _, _ => rfl
  | none :: l, i, hl => by
    rw [List.all_cons, Bool.and_eq_true] at hl
    exact lsl_old h (i := i + 1) hl.2
  | some v :: l, i, hl => by
    rw [List.all_cons, Bool.and_eq_true] at hl
    show (i, cv ad' v) :: lsl ad' (i + 1) l = (i, cv ad v) :: lsl ad (i + 1) l
    rw [cv_old h hl.1, lsl_old h hl.2]
theorem wg_mono {w0 w : WD} (h1 : w0.1.length ≤ w.1.length) (h2 : w0.2.length ≤ w.2.length) {q : Nat} (h : wg w0 q ≠ none) : wg w q ≠ none := by
  unfold wg at h ⊢
  cases hb : Nat.blt q 100 with
  | true =>
    rw [hb] at h
    dsimp only at h ⊢
    intro z
    have := List.getElem?_eq_none_iff.mp z
    exact h (List.getElem?_eq_none (by omega))
  | false =>
    rw [hb] at h
    dsimp only at h ⊢
    intro z
    have := List.getElem?_eq_none_iff.mp z
    exact h (List.getElem?_eq_none (by omega))
theorem r_cI {idx k2 mc2 ms2 n q : Nat} {M2 : MI} {as stk : List Value} (hd : decode M.2.1 pc = .ok (.invokespecial idx, 3)) (hM : Sem M2 k2 mc2 ms2 (.ref q :: as) w none w2) (hL : MLI M.1.cls idx M2 n) (hstk : stk = as.reverse ++ .ref q :: st) (hn : as.length = n) (hk : k2 + 1 ≤ k ∧ M2.2.2.1 ≤ 19) (hnc : nc + mc2 ≤ mc ∧ ns + ms2 ≤ ms) (hst : (st.map fun v => v.category).sum ≤ 8) (hold : ls.all (oldO w) = true ∧ st.all (oldV w) = true) (hmono : w0.1.length ≤ w.1.length ∧ w0.2.length ≤ w.2.length) (K : Rq Z X M k mc ms w0 (nc + mc2) (ns + ms2) (pc + 3) ls st w2) : Rq Z X M k mc ms w0 nc ns pc ls stk w := by
  subst hstk
  intro p l e s m args below meth c D cA ad0 A hC hX ad H locs lsA hg hP hD hS hl
  obtain ⟨hF, hPc⟩ := Fb_of (.ref q :: as) hC hg hP hD hS
  obtain ⟨⟨hlk, hini, hcode, hdd⟩, hinit, hinst, hret⟩ := hL
  obtain ⟨hx, hb, hml, hrt, hlocks, hnm, hown, hts, hK, hA, hSt⟩ := id hC
  have hG : GoodIn lw_gd (Cond.code M2.1 M2.2.1 M2.2.2.1 M2.2.2.2 :: lw_gd) := gd_goodIn _ (fun _ h => h) hcode
  have hRm : (rmk k2 mc2 ms2).frames + 1 ≤ (rmk k mc ms).frames ∧ 8 + (M2.2.2.1 + 11) + (rmk k2 mc2 ms2).locals ≤ (rmk k mc ms).locals := by
    unfold rmk
    dsimp only
    omega
  have hst2 : (as.reverse ++ .ref q :: st).map (cv ad) = (as.map (cv ad)).reverse ++ .ref (ad q) :: st.map (cv ad) := by simp [cv]
  have hsum : ((st.map (cv ad)).map fun v => v.category).sum ≤ 8 := by rw [cv_sum]; exact hst
  rw [hst2]
  have hM' := hM l D cA ad H.size
  have hrun : va_Run p l e (rmk k mc ms) s m args below meth c H locs nc ns mc2 ms2 (F0 m pc lsA ((as.map (cv ad)).reverse ++ .ref (ad q) :: st.map (cv ad))) (st.map (cv ad)) (QQ D cA ad mc2 w none w2 (va_A (cw ad cA w) H.size) (Value.ref (ad q) :: as.map (cv ad)).toArray) (va_A (cw ad cA w) H.size) := by
    rcases hlk with hlk | ⟨host, hlk⟩
    · exact va_runI (As := as.map (cv ad)) ⟨hx, hb, hml, hown, hts⟩ hM' ⟨callB_of (ret := none) n hts hG (by rw [hret]) rfl rfl (hts _ hini) (hts _ hlk) hdd hRm, hinit, hts _ hinst⟩ ⟨Fb_blind, hPc⟩ rfl (by simpa using hn) hl.1 rfl (lv_room hsum) hd ⟨hnc.1, hnc.2⟩
    · exact va_runIN (As := as.map (cv ad)) ⟨hx, hb, hml, hown, hts⟩ hM' ⟨va_cnB (ret := none) n hts hG (by rw [hret]) rfl rfl (hSt.2.2.1.2.1 _ hlk) (hts _ hini) hdd hRm, hinit, hts _ hinst⟩ ⟨Fb_blind, hPc⟩ rfl (by simpa using hn) hl.1 rfl (lv_room hsum) hd ⟨hnc.1, hnc.2⟩
  intro T hT X1
  obtain ⟨v, st₀, t, T', L, h0, X', hL', e1, e2, ⟨ad', hg', hv, hP', hD', hz, hkk⟩, stp⟩ := hrun T hT X1
  have hv : v = none := by cases hv; rfl
  subst hv
  rw [h0] at hz hkk
  have hS' : va_S A s.heap T'.heap (locs ++ L) := ⟨Nat.le_trans hS.1 (by rw [e1]; exact hz), fun q h1 h2 => by rw [e1, hkk q (Nat.lt_of_lt_of_le h1 hS.1) (fun z => h2 (hF q z))]; exact hS.2.1 q h1 h2, fun q hq => by
      rcases List.mem_append.mp hq with h | h
      · exact hS.2.2 q h
      · exact hF _ (hL' q h)⟩
  have hag : Ag mc w0 ad0 ad' := by
    refine ⟨fun z => ?_, fun x hx => ?_⟩
    · have h2 : mc2 = 0 := by omega
      rw [hg'.1 h2, hg.1 z]
    · rw [hg'.2 x (hx.elim (fun z => Or.inl (wg_mono hmono.1 hmono.2 z)) Or.inr), hg.2 x hx]
  have hst3 := cvm_old hg' hold.2
  obtain ⟨t2, a1, b1⟩ := K p l e s m args below meth c D cA ad0 A hC hX ad' T'.heap (locs ++ L) lsA hag (by rw [e1]; exact hP') (hD'.weaken (fun _ _ _ h => hF _ h)) hS' (by rw [lsl_old hg' hold.1]; exact hl) T' rfl X'
  rw [hst3] at a1
  exact ⟨t2, stp t2 a1, b1⟩
end RG
theorem oi_i : Cond.instanceMethod Lib.objectInit ∈ lw_gd := gd_mem (List.mem_of_getElem? (i := 81) (by decide +kernel)) rfl
theorem oi_c : Cond.code Lib.objectInit ⟨#[0xb1]⟩ 1 none ∈ lw_gd := gd_mem (List.mem_of_getElem? (i := 82) (by decide +kernel)) rfl
theorem oiX8_3 : Cond.methodLink RX8 3 Lib.objectInit ∈ lw_gd := gd_mem (List.mem_of_getElem? (i := 80) (by decide +kernel)) rfl
theorem nwX8_9 : Cond.classLink RX8 9 (clC 4) ∈ lw_gd ∧ Cond.instantiable (clC 4) (clN 4) ∈ lw_gd ∧ Cond.initialized (clC 4) ∈ lw_gd := ⟨gd_mem (List.mem_of_getElem? (i := 83) (by decide +kernel)) rfl, gd_mem (List.mem_of_getElem? (i := 84) (by decide +kernel)) rfl, gd_mem (List.mem_of_getElem? (i := 60) (by decide +kernel)) rfl⟩
theorem lX8_11 : MLI RX8 11 mX5_init 0 := ⟨⟨Or.inr ⟨"SquareCaller", ns_mem (List.mem_of_getElem? (i := 85) (by decide +kernel)) rfl⟩, gd_mem (List.mem_of_getElem? (i := 60) (by decide +kernel)) rfl, gd_mem (List.mem_of_getElem? (i := 87) (by decide +kernel)) rfl, by decide +kernel⟩, rfl, gd_mem (List.mem_of_getElem? (i := 86) (by decide +kernel)) rfl, rfl⟩
theorem nwX8_16 : Cond.classLink RX8 16 (clC 2) ∈ lw_gd ∧ Cond.instantiable (clC 2) (clN 2) ∈ lw_gd ∧ Cond.initialized (clC 2) ∈ lw_gd := ⟨gd_mem (List.mem_of_getElem? (i := 105) (by decide +kernel)) rfl, gd_mem (List.mem_of_getElem? (i := 106) (by decide +kernel)) rfl, gd_mem (List.mem_of_getElem? (i := 61) (by decide +kernel)) rfl⟩
theorem lX8_18 : MLI RX8 18 mX2_init 0 := ⟨⟨Or.inr ⟨"SquareCaller", ns_mem (List.mem_of_getElem? (i := 107) (by decide +kernel)) rfl⟩, gd_mem (List.mem_of_getElem? (i := 61) (by decide +kernel)) rfl, gd_mem (List.mem_of_getElem? (i := 109) (by decide +kernel)) rfl, by decide +kernel⟩, rfl, gd_mem (List.mem_of_getElem? (i := 108) (by decide +kernel)) rfl, rfl⟩
theorem nwX8_23 : Cond.classLink RX8 23 (clC 0) ∈ lw_gd ∧ Cond.instantiable (clC 0) (clN 0) ∈ lw_gd ∧ Cond.initialized (clC 0) ∈ lw_gd := ⟨gd_mem (List.mem_of_getElem? (i := 142) (by decide +kernel)) rfl, gd_mem (List.mem_of_getElem? (i := 143) (by decide +kernel)) rfl, gd_mem (List.mem_of_getElem? (i := 62) (by decide +kernel)) rfl⟩
theorem lX8_25 : MLI RX8 25 mX0_init 0 := ⟨⟨Or.inl (gd_mem (List.mem_of_getElem? (i := 144) (by decide +kernel)) rfl), gd_mem (List.mem_of_getElem? (i := 62) (by decide +kernel)) rfl, gd_mem (List.mem_of_getElem? (i := 146) (by decide +kernel)) rfl, by decide +kernel⟩, rfl, gd_mem (List.mem_of_getElem? (i := 145) (by decide +kernel)) rfl, rfl⟩
theorem nwX8_37 : Cond.classLink RX8 37 (clC 1) ∈ lw_gd ∧ Cond.instantiable (clC 1) (clN 1) ∈ lw_gd ∧ Cond.initialized (clC 1) ∈ lw_gd := ⟨gd_mem (List.mem_of_getElem? (i := 180) (by decide +kernel)) rfl, gd_mem (List.mem_of_getElem? (i := 181) (by decide +kernel)) rfl, gd_mem (List.mem_of_getElem? (i := 64) (by decide +kernel)) rfl⟩
theorem lX8_39 : MLI RX8 39 mX1_init 0 := ⟨⟨Or.inr ⟨"SquareCaller", ns_mem (List.mem_of_getElem? (i := 182) (by decide +kernel)) rfl⟩, gd_mem (List.mem_of_getElem? (i := 64) (by decide +kernel)) rfl, gd_mem (List.mem_of_getElem? (i := 184) (by decide +kernel)) rfl, by decide +kernel⟩, rfl, gd_mem (List.mem_of_getElem? (i := 183) (by decide +kernel)) rfl, rfl⟩
theorem nwX8_44 : Cond.classLink RX8 44 (clC 5) ∈ lw_gd ∧ Cond.instantiable (clC 5) (clN 5) ∈ lw_gd ∧ Cond.initialized (clC 5) ∈ lw_gd := ⟨gd_mem (List.mem_of_getElem? (i := 199) (by decide +kernel)) rfl, gd_mem (List.mem_of_getElem? (i := 200) (by decide +kernel)) rfl, gd_mem (List.mem_of_getElem? (i := 65) (by decide +kernel)) rfl⟩
theorem lX8_46 : MLI RX8 46 mX6_init 0 := ⟨⟨Or.inr ⟨"SquareCaller", ns_mem (List.mem_of_getElem? (i := 201) (by decide +kernel)) rfl⟩, gd_mem (List.mem_of_getElem? (i := 65) (by decide +kernel)) rfl, gd_mem (List.mem_of_getElem? (i := 203) (by decide +kernel)) rfl, by decide +kernel⟩, rfl, gd_mem (List.mem_of_getElem? (i := 202) (by decide +kernel)) rfl, rfl⟩
theorem nwX8_51 : Cond.classLink RX8 51 (clC 3) ∈ lw_gd ∧ Cond.instantiable (clC 3) (clN 3) ∈ lw_gd ∧ Cond.initialized (clC 3) ∈ lw_gd := ⟨gd_mem (List.mem_of_getElem? (i := 238) (by decide +kernel)) rfl, gd_mem (List.mem_of_getElem? (i := 239) (by decide +kernel)) rfl, gd_mem (List.mem_of_getElem? (i := 66) (by decide +kernel)) rfl⟩
theorem lX8_53 : MLI RX8 53 mX4_init 0 := ⟨⟨Or.inr ⟨"SquareCaller", ns_mem (List.mem_of_getElem? (i := 240) (by decide +kernel)) rfl⟩, gd_mem (List.mem_of_getElem? (i := 66) (by decide +kernel)) rfl, gd_mem (List.mem_of_getElem? (i := 242) (by decide +kernel)) rfl, by decide +kernel⟩, rfl, gd_mem (List.mem_of_getElem? (i := 241) (by decide +kernel)) rfl, rfl⟩
theorem oiX9_1 : Cond.methodLink RX9 1 Lib.objectInit ∈ lw_gd := gd_mem (List.mem_of_getElem? (i := 736) (by decide +kernel)) rfl
theorem anX9_7 : Cond.classLink RX9 7 "java/lang/String" ∈ lw_gd := gd_mem (List.mem_of_getElem? (i := 737) (by decide +kernel)) rfl
theorem oiX0_1 : Cond.methodLink RX0 1 Lib.objectInit ∈ lw_gd := gd_mem (List.mem_of_getElem? (i := 147) (by decide +kernel)) rfl
theorem oiX1_3 : Cond.methodLink RX1 3 Lib.objectInit ∈ lw_gd := gd_mem (List.mem_of_getElem? (i := 185) (by decide +kernel)) rfl
theorem oiX2_3 : Cond.methodLink RX2 3 Lib.objectInit ∈ lw_gd := gd_mem (List.mem_of_getElem? (i := 110) (by decide +kernel)) rfl
theorem oiX4_3 : Cond.methodLink RX4 3 Lib.objectInit ∈ lw_gd := gd_mem (List.mem_of_getElem? (i := 243) (by decide +kernel)) rfl
theorem oiX5_3 : Cond.methodLink RX5 3 Lib.objectInit ∈ lw_gd := gd_mem (List.mem_of_getElem? (i := 88) (by decide +kernel)) rfl
theorem oiX6_3 : Cond.methodLink RX6 3 Lib.objectInit ∈ lw_gd := gd_mem (List.mem_of_getElem? (i := 204) (by decide +kernel)) rfl
theorem nwX6_9 : Cond.classLink RX6 9 (clC 2) ∈ lw_gd ∧ Cond.instantiable (clC 2) (clN 2) ∈ lw_gd ∧ Cond.initialized (clC 2) ∈ lw_gd := ⟨gd_mem (List.mem_of_getElem? (i := 205) (by decide +kernel)) rfl, gd_mem (List.mem_of_getElem? (i := 106) (by decide +kernel)) rfl, gd_mem (List.mem_of_getElem? (i := 61) (by decide +kernel)) rfl⟩
theorem lX6_11 : MLI RX6 11 mX2_init 0 := ⟨⟨Or.inr ⟨"SquareCaller", ns_mem (List.mem_of_getElem? (i := 206) (by decide +kernel)) rfl⟩, gd_mem (List.mem_of_getElem? (i := 61) (by decide +kernel)) rfl, gd_mem (List.mem_of_getElem? (i := 109) (by decide +kernel)) rfl, by decide +kernel⟩, rfl, gd_mem (List.mem_of_getElem? (i := 108) (by decide +kernel)) rfl, rfl⟩
theorem nwL_7 : Cond.classLink RL 7 (clC 6) ∈ lw_gd ∧ Cond.instantiable (clC 6) (clN 6) ∈ lw_gd ∧ Cond.initialized (clC 6) ∈ lw_gd := ⟨gd_mem (List.mem_of_getElem? (i := 75) (by decide +kernel)) rfl, gd_mem (List.mem_of_getElem? (i := 76) (by decide +kernel)) rfl, gd_mem (List.mem_of_getElem? (i := 59) (by decide +kernel)) rfl⟩
theorem lL_9 : MLI RL 9 mX8_init 0 := ⟨⟨Or.inl (gd_mem (List.mem_of_getElem? (i := 77) (by decide +kernel)) rfl), gd_mem (List.mem_of_getElem? (i := 59) (by decide +kernel)) rfl, gd_mem (List.mem_of_getElem? (i := 79) (by decide +kernel)) rfl, by decide +kernel⟩, rfl, gd_mem (List.mem_of_getElem? (i := 78) (by decide +kernel)) rfl, rfl⟩
theorem nwL_10 : Cond.classLink RL 10 (clC 7) ∈ lw_gd ∧ Cond.instantiable (clC 7) (clN 7) ∈ lw_gd ∧ Cond.initialized (clC 7) ∈ lw_gd := ⟨gd_mem (List.mem_of_getElem? (i := 731) (by decide +kernel)) rfl, gd_mem (List.mem_of_getElem? (i := 732) (by decide +kernel)) rfl, gd_mem (List.mem_of_getElem? (i := 67) (by decide +kernel)) rfl⟩
theorem lL_12 : MLI RL 12 mX9_init 0 := ⟨⟨Or.inl (gd_mem (List.mem_of_getElem? (i := 733) (by decide +kernel)) rfl), gd_mem (List.mem_of_getElem? (i := 67) (by decide +kernel)) rfl, gd_mem (List.mem_of_getElem? (i := 735) (by decide +kernel)) rfl, by decide +kernel⟩, rfl, gd_mem (List.mem_of_getElem? (i := 734) (by decide +kernel)) rfl, rfl⟩
