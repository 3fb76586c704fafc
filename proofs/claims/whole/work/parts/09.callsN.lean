section RD
variable {Z : ZT} {X : XT} {M : MI} {k mc ms : Nat} {w0 : WD} {nc ns pc : Nat} {ls : List (Option Value)} {st stk : List Value} {w w2 : WD}
theorem r_cV {idx k2 n ci q : Nat} {M2 : MI} {as : List Value} {fs : List Value} {v : Value} (hd : decode M.2.1 pc = .ok (.invokevirtual idx, 3)) (hM : Sem M2 k2 0 0 (.ref q :: as) w (some v) w2) (hL : MLV M.1.cls idx M2 n ci) (hstk : stk = as.reverse ++ .ref q :: st) (hw : wg w q = some (.inr (ci, fs))) (hn : as.length = n) (hk : k2 + 1 ≤ k ∧ M2.2.2.1 ≤ 19) (hnc : nc ≤ mc ∧ ns ≤ ms) (hst : (st.map fun v => v.category).sum ≤ 8) (K : Rq Z X M k mc ms w0 nc ns (pc + 3) ls (v :: st) w2) : Rq Z X M k mc ms w0 nc ns pc ls stk w := by
  subst hstk
  exact r_callV hd hM hL hw hn hk hnc hst K
theorem r_cVv {idx k2 n ci q : Nat} {M2 : MI} {as : List Value} {fs : List Value} (hd : decode M.2.1 pc = .ok (.invokevirtual idx, 3)) (hM : Sem M2 k2 0 0 (.ref q :: as) w none w2) (hL : MLV M.1.cls idx M2 n ci) (hstk : stk = as.reverse ++ .ref q :: st) (hw : wg w q = some (.inr (ci, fs))) (hn : as.length = n) (hk : k2 + 1 ≤ k ∧ M2.2.2.1 ≤ 19) (hnc : nc ≤ mc ∧ ns ≤ ms) (hst : (st.map fun v => v.category).sum ≤ 8) (K : Rq Z X M k mc ms w0 nc ns (pc + 3) ls st w2) : Rq Z X M k mc ms w0 nc ns pc ls stk w := by
  subst hstk
  exact r_callV hd hM hL hw hn hk hnc hst K
theorem r_cS {idx k2 n : Nat} {M2 : MI} {as : List Value} {v : Value} (hd : decode M.2.1 pc = .ok (.invokestatic idx, 3)) (hM : Sem M2 k2 0 0 as w (some v) w2) (hL : MLS M.1.cls idx M2 n) (hstk : stk = as.reverse ++ st) (hn : as.length = n) (hk : k2 + 1 ≤ k ∧ M2.2.2.1 ≤ 19) (hnc : nc ≤ mc ∧ ns ≤ ms) (hst : (st.map fun v => v.category).sum ≤ 8) (K : Rq Z X M k mc ms w0 nc ns (pc + 3) ls (v :: st) w2) : Rq Z X M k mc ms w0 nc ns pc ls stk w := by
  subst hstk
  exact r_callS hd hM hL hn hk hnc hst K
end RD
theorem sX9_130 : Cond.fieldLink RX9 130 "SquareCallerModel" "HOME_CELL" "[I" ∈ lw_gd ∨ ∃ host, Cond.fieldLinkNest RX9 130 "SquareCallerModel" "HOME_CELL" "[I" host ∈ lw_ns := Or.inl (gd_mem (List.mem_of_getElem? (i := 760) (by decide +kernel)) rfl)
theorem sX9_133 : Cond.fieldLink RX9 133 "SquareCallerModel" "HOME_FACE" "[I" ∈ lw_gd ∨ ∃ host, Cond.fieldLinkNest RX9 133 "SquareCallerModel" "HOME_FACE" "[I" host ∈ lw_ns := Or.inl (gd_mem (List.mem_of_getElem? (i := 762) (by decide +kernel)) rfl)
theorem sX9_155 : Cond.fieldLink RX9 155 "SquareCallerModel" "GROUP" "[I" ∈ lw_gd ∨ ∃ host, Cond.fieldLinkNest RX9 155 "SquareCallerModel" "GROUP" "[I" host ∈ lw_ns := Or.inl (gd_mem (List.mem_of_getElem? (i := 935) (by decide +kernel)) rfl)
theorem sX2_75 : Cond.fieldLink RX2 75 "SquareCaller" "HOME_CELLS" "[I" ∈ lw_gd ∨ ∃ host, Cond.fieldLinkNest RX2 75 "SquareCaller" "HOME_CELLS" "[I" host ∈ lw_ns := Or.inr ⟨"SquareCaller", ns_mem (List.mem_of_getElem? (i := 472) (by decide +kernel)) rfl⟩
theorem sX2_78 : Cond.fieldLink RX2 78 "SquareCaller" "HOME_FACINGS" "[I" ∈ lw_gd ∨ ∃ host, Cond.fieldLinkNest RX2 78 "SquareCaller" "HOME_FACINGS" "[I" host ∈ lw_ns := Or.inr ⟨"SquareCaller", ns_mem (List.mem_of_getElem? (i := 473) (by decide +kernel)) rfl⟩
theorem sX2_122 : Cond.fieldLink RX2 122 "SquareCaller" "STEP_X" "[I" ∈ lw_gd ∨ ∃ host, Cond.fieldLinkNest RX2 122 "SquareCaller" "STEP_X" "[I" host ∈ lw_ns := Or.inr ⟨"SquareCaller", ns_mem (List.mem_of_getElem? (i := 452) (by decide +kernel)) rfl⟩
theorem sX2_125 : Cond.fieldLink RX2 125 "SquareCaller" "STEP_Y" "[I" ∈ lw_gd ∨ ∃ host, Cond.fieldLinkNest RX2 125 "SquareCaller" "STEP_Y" "[I" host ∈ lw_ns := Or.inr ⟨"SquareCaller", ns_mem (List.mem_of_getElem? (i := 454) (by decide +kernel)) rfl⟩
theorem sX2_128 : Cond.fieldLink RX2 128 "SquareCaller" "FACING_SIGNS" "[C" ∈ lw_gd ∨ ∃ host, Cond.fieldLinkNest RX2 128 "SquareCaller" "FACING_SIGNS" "[C" host ∈ lw_ns := Or.inr ⟨"SquareCaller", ns_mem (List.mem_of_getElem? (i := 706) (by decide +kernel)) rfl⟩
theorem sX3_15 : Cond.fieldLink RX3 15 "SquareCaller" "HOME_CELLS" "[I" ∈ lw_gd ∨ ∃ host, Cond.fieldLinkNest RX3 15 "SquareCaller" "HOME_CELLS" "[I" host ∈ lw_ns := Or.inr ⟨"SquareCaller", ns_mem (List.mem_of_getElem? (i := 151) (by decide +kernel)) rfl⟩
theorem sX3_19 : Cond.fieldLink RX3 19 "SquareCaller" "HOME_FACINGS" "[I" ∈ lw_gd ∨ ∃ host, Cond.fieldLinkNest RX3 19 "SquareCaller" "HOME_FACINGS" "[I" host ∈ lw_ns := Or.inr ⟨"SquareCaller", ns_mem (List.mem_of_getElem? (i := 153) (by decide +kernel)) rfl⟩
