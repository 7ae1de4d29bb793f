/-! ===== every table is what the code says ===== -/
abbrev xgoodM (N : XM) : Bool := plainName (xm_y N).cls && (decide (xR (xm_i N) = (xm_y N).cls) && xtabf xfin xFL xMV xMS xMI xOI xCL xAL xKI xKL xGS N)
theorem xgM_0 : ∀ N ∈ xML_0, xgoodM N = true := List.all_eq_true.mp (by decide +kernel)
theorem xgM_1 : ∀ N ∈ xML_1, xgoodM N = true := List.all_eq_true.mp (by decide +kernel)
theorem xgM_2 : ∀ N ∈ xML_2, xgoodM N = true := List.all_eq_true.mp (by decide +kernel)
theorem xgM_3 : ∀ N ∈ xML_3, xgoodM N = true := List.all_eq_true.mp (by decide +kernel)
theorem xgM_4 : ∀ N ∈ xML_4, xgoodM N = true := List.all_eq_true.mp (by decide +kernel)
theorem xgM_5 : ∀ N ∈ xML_5, xgoodM N = true := List.all_eq_true.mp (by decide +kernel)
theorem xgM_6 : ∀ N ∈ xML_6, xgoodM N = true := List.all_eq_true.mp (by decide +kernel)
theorem xgM_7 : ∀ N ∈ xML_7, xgoodM N = true := List.all_eq_true.mp (by decide +kernel)
theorem xgM_8 : ∀ N ∈ xML_8, xgoodM N = true := List.all_eq_true.mp (by decide +kernel)
theorem xgM_9 : ∀ N ∈ xML_9, xgoodM N = true := List.all_eq_true.mp (by decide +kernel)
theorem xgM_10 : ∀ N ∈ xML_10, xgoodM N = true := List.all_eq_true.mp (by decide +kernel)
theorem xgM_11 : ∀ N ∈ xML_11, xgoodM N = true := List.all_eq_true.mp (by decide +kernel)
theorem xgM_12 : ∀ N ∈ xML_12, xgoodM N = true := List.all_eq_true.mp (by decide +kernel)
theorem xgM_13 : ∀ N ∈ xML_13, xgoodM N = true := List.all_eq_true.mp (by decide +kernel)
theorem xgM_14 : ∀ N ∈ xML_14, xgoodM N = true := List.all_eq_true.mp (by decide +kernel)
theorem xgM_15 : ∀ N ∈ xML_15, xgoodM N = true := List.all_eq_true.mp (by decide +kernel)
theorem xML_all : ∀ r ∈ xMLL, ∀ N ∈ r, xgoodM N = true := List.forall_mem_cons.mpr ⟨xgM_0, List.forall_mem_cons.mpr ⟨xgM_1, List.forall_mem_cons.mpr ⟨xgM_2, List.forall_mem_cons.mpr ⟨xgM_3, List.forall_mem_cons.mpr ⟨xgM_4, List.forall_mem_cons.mpr ⟨xgM_5, List.forall_mem_cons.mpr ⟨xgM_6, List.forall_mem_cons.mpr ⟨xgM_7, List.forall_mem_cons.mpr ⟨xgM_8, List.forall_mem_cons.mpr ⟨xgM_9, List.forall_mem_cons.mpr ⟨xgM_10, List.forall_mem_cons.mpr ⟨xgM_11, List.forall_mem_cons.mpr ⟨xgM_12, List.forall_mem_cons.mpr ⟨xgM_13, List.forall_mem_cons.mpr ⟨xgM_14, List.forall_mem_cons.mpr ⟨xgM_15, fun _ h => absurd h List.not_mem_nil⟩⟩⟩⟩⟩⟩⟩⟩⟩⟩⟩⟩⟩⟩⟩⟩
theorem x_ok : ∀ j N, xMT j = some N → plainName (xm_y N).cls = true ∧ ∀ pc q, xfetch (xm_t N) pc = some q → xdec (xm_c N) pc q.1 ∧ xaux vwCl xTs xMT xFT xFD xTY xSV xNW xNF N pc q.2.1 q.2.2.1 q.2.2.2 q.1 := by
  intro j N h
  have hg : xgoodM N = true := by
    unfold xMT at h
    cases hr : xMLL[j / 16]? with
    | none => rw [hr] at h; cases h
    | some r =>
      rw [hr] at h
      exact xML_all r (List.mem_of_getElem? hr) N (List.mem_of_getElem? h)
  rw [Bool.and_eq_true, Bool.and_eq_true] at hg
  exact ⟨hg.1, fun pc q hq => xokb_ok (of_decide_eq_true hg.2.1) ⟨rfl, rfl, rfl⟩ x_arrs x_oi xFL_ok xMV_ok xMS_ok xMI_ok xOI_ok xCL_ok xAL_ok xKI_ok xKL_ok xGS_ok (xtabf_ok hg.2.2 hq)⟩
