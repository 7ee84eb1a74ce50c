set_option maxHeartbeats 4000000 in
set_option maxRecDepth 100000 in
theorem k_editionAt {lA : Launch} (hlt : lA.stackTraces = false) {D : jv_D} {base : Nat} {z : Nat → Nat → Nat} {T : Nat → Nat} {N : Nat → Nat → Nat} {tO : Nat → Nat} {h : jv_H} {M : mA} (hR : cl_R z T N tO h M) {p0 : Int32} : jv_Met lA D base yX7_editionAt (.code yX7_editionAt cX7_editionAt 2 (some (.object "LinkArchive$Edition"))) 2 1 6 [.ref (z 6 0), .int p0] h (fun v h' => ∃ k, k < M.1.length ∧ p0 = nI k ∧ m_ix1 M.1.length p0 = some k ∧ v = some (.ref (z 0 k)) ∧ h = h') (fun c h' => m_ix1 M.1.length p0 = none ∧ c = "java/lang/IndexOutOfBoundsException" ∧ h = h') := by
  refine jv_ofV (lo := [(0, .ref (z 6 0)), (1, .int p0)]) hlt (by decide) (Nat.le_of_ble_eq_true rfl) rfl (fun E hEl hEd hEz Z G hr ht hnm => ?_)
  subst hEl; subst hEd; subst hEz
  have hl8 := hR.1.2.1.2.1; have hl12 := hR.1.2.1.2.2.2
  refine jv_iload_n (q := 1) G 1 dX7_editionAt_0 rfl rfl rfl ?_
  refine jv_aload_n (q := 2) G 0 dX7_editionAt_1 rfl rfl rfl ?_
  refine jv_getI (q := 5) G dX7_editionAt_2 fl_X7_252 rfl hR.1.1.1 hR.1.2.1.1 rfl ?_
  refine jv_callS_I (q := 8) (h1 := h) (As := [.int p0, .int (nI M.1.length)]) (rest := []) (ce' := 0) (sl' := 0) (r := jv_bI (rr_lt p0 M.1.length)) G Z ml_X7_66 (k_isBelow hlt) dX7_editionAt_5 rfl (by decide) (by decide) (by decide) (by decide) (Nat.le_of_ble_eq_true rfl) rfl rfl rfl rfl ?_
  refine jv_if_neB (q := 11) (tgt := 22) G dX7_editionAt_8 (by decide) rfl (fun c1 => ?_) (fun c1 => ?_)
  · obtain ⟨u0, hu0, eu0, zu0⟩ := rr_lt_t (by omega) c1
    subst eu0
    refine jv_aload_n (q := 23) G 0 dX7_editionAt_22 rfl rfl rfl ?_
    refine jv_getQ (q := 26) G dX7_editionAt_23 fl_X7_11 rfl hR.1.1.1 hR.1.1.2.1 rfl ?_
    refine jv_iload_n (q := 27) G 1 dX7_editionAt_26 rfl rfl rfl ?_
    refine jv_aaldQ (q := 28) G dX7_editionAt_27 hR.1.1.2.2.1 rfl (by omega) (by decide) (hR.1.1.2.2.2.2.2.2.2.2.2.1 u0 (by omega)) rfl ?_
    refine jv_aretQ G hr dX7_editionAt_28 (Nat.le_of_ble_eq_true rfl) (Nat.le_of_ble_eq_true rfl) ?_
    exact ⟨u0, hu0, rfl, zu0, rfl, rfl⟩
  · have zu0 := rr_lt_f c1
    refine jv_throwSW (text := "no such edition") G Z ht th_283 (by decide) (by decide) dX7_editionAt_11 dX7_editionAt_14 dX7_editionAt_15 dX7_editionAt_18 dX7_editionAt_21 (Nat.le_of_ble_eq_true rfl) (by decide) (by decide) ?_
    exact ⟨zu0, rfl, rfl⟩
set_option maxHeartbeats 4000000 in
set_option maxRecDepth 100000 in
theorem k_callerAt {lA : Launch} (hlt : lA.stackTraces = false) {D : jv_D} {base : Nat} {z : Nat → Nat → Nat} {T : Nat → Nat} {N : Nat → Nat → Nat} {tO : Nat → Nat} {h : jv_H} {M : mA} (hR : cl_R z T N tO h M) {p0 : Int32} : jv_Met lA D base yX7_callerAt (.code yX7_callerAt cX7_callerAt 2 (some (.object "LinkArchive$Caller"))) 2 1 6 [.ref (z 6 0), .int p0] h (fun v h' => ∃ k, k < M.2.length ∧ p0 = nI k ∧ m_ix1 M.2.length p0 = some k ∧ v = some (.ref (z 3 k)) ∧ h = h') (fun c h' => m_ix1 M.2.length p0 = none ∧ c = "java/lang/IndexOutOfBoundsException" ∧ h = h') := by
  refine jv_ofV (lo := [(0, .ref (z 6 0)), (1, .int p0)]) hlt (by decide) (Nat.le_of_ble_eq_true rfl) rfl (fun E hEl hEd hEz Z G hr ht hnm => ?_)
  subst hEl; subst hEd; subst hEz
  have hl8 := hR.1.2.1.2.1; have hl12 := hR.1.2.1.2.2.2
  refine jv_iload_n (q := 1) G 1 dX7_callerAt_0 rfl rfl rfl ?_
  refine jv_aload_n (q := 2) G 0 dX7_callerAt_1 rfl rfl rfl ?_
  refine jv_getI (q := 5) G dX7_callerAt_2 fl_X7_181 rfl hR.1.1.1 hR.1.2.1.2.2.1 rfl ?_
  refine jv_callS_I (q := 8) (h1 := h) (As := [.int p0, .int (nI M.2.length)]) (rest := []) (ce' := 0) (sl' := 0) (r := jv_bI (rr_lt p0 M.2.length)) G Z ml_X7_66 (k_isBelow hlt) dX7_callerAt_5 rfl (by decide) (by decide) (by decide) (by decide) (Nat.le_of_ble_eq_true rfl) rfl rfl rfl rfl ?_
  refine jv_if_neB (q := 11) (tgt := 22) G dX7_callerAt_8 (by decide) rfl (fun c1 => ?_) (fun c1 => ?_)
  · obtain ⟨u0, hu0, eu0, zu0⟩ := rr_lt_t (by omega) c1
    subst eu0
    refine jv_aload_n (q := 23) G 0 dX7_callerAt_22 rfl rfl rfl ?_
    refine jv_getQ (q := 26) G dX7_callerAt_23 fl_X7_17 rfl hR.1.1.1 hR.1.1.2.2.2.1 rfl ?_
    refine jv_iload_n (q := 27) G 1 dX7_callerAt_26 rfl rfl rfl ?_
    refine jv_aaldQ (q := 28) G dX7_callerAt_27 hR.1.1.2.2.2.2.1 rfl (by omega) (by decide) (hR.1.1.2.2.2.2.2.2.2.2.2.2 u0 (by omega)) rfl ?_
    refine jv_aretQ G hr dX7_callerAt_28 (Nat.le_of_ble_eq_true rfl) (Nat.le_of_ble_eq_true rfl) ?_
    exact ⟨u0, hu0, rfl, zu0, rfl, rfl⟩
  · have zu0 := rr_lt_f c1
    refine jv_throwSW (text := "no such caller") G Z ht th_283 (by decide) (by decide) dX7_callerAt_11 dX7_callerAt_14 dX7_callerAt_15 dX7_callerAt_18 dX7_callerAt_21 (Nat.le_of_ble_eq_true rfl) (by decide) (by decide) ?_
    exact ⟨zu0, rfl, rfl⟩
set_option maxHeartbeats 4000000 in
set_option maxRecDepth 100000 in
theorem k_refuseOpen {lA : Launch} (hlt : lA.stackTraces = false) {D : jv_D} {base : Nat} {z : Nat → Nat → Nat} {T : Nat → Nat} {N : Nat → Nat → Nat} {tO : Nat → Nat} {h : jv_H} {M : mA} (hR : cl_R z T N tO h M) {k : Nat} (hk8 : k < 8) : jv_Met lA D base yX7_refuseOpen (.code yX7_refuseOpen cX7_refuseOpen 1 none) 1 1 6 [.ref (z 0 k)] h (fun v h' => ma_s M k = true ∧ v = none ∧ h = h') (fun c h' => ma_s M k = false ∧ c = "java/lang/IllegalStateException" ∧ h = h') := by
  refine jv_ofV (lo := [(0, .ref (z 0 k))]) hlt (by decide) (Nat.le_of_ble_eq_true rfl) rfl (fun E hEl hEd hEz Z G hr ht hnm => ?_)
  subst hEl; subst hEd; subst hEz
  have hl8 := hR.1.2.1.2.1; have hl12 := hR.1.2.1.2.2.2
  refine jv_aload_n (q := 1) G 0 dX7_refuseOpen_0 rfl rfl rfl ?_
  refine jv_getZ (q := 4) G dX7_refuseOpen_1 fl_X7_155 rfl (hR.1.2.2.1 k hk8).1.1.1 (hR.1.2.2.1 k hk8).2.2.1 rfl ?_
  refine jv_if_neB (q := 7) (tgt := 18) G dX7_refuseOpen_4 (by decide) rfl (fun c1 => ?_) (fun c1 => ?_)
  · refine jv_vret G hr dX7_refuseOpen_18 (Nat.le_of_ble_eq_true rfl) (Nat.le_of_ble_eq_true rfl) ?_
    exact ⟨c1, rfl, rfl⟩
  · refine jv_throwSW (text := "the edition is open") G Z ht th_288 (by decide) (by decide) dX7_refuseOpen_7 dX7_refuseOpen_10 dX7_refuseOpen_11 dX7_refuseOpen_14 dX7_refuseOpen_17 (Nat.le_of_ble_eq_true rfl) (by decide) (by decide) ?_
    exact ⟨c1, rfl, rfl⟩
set_option maxHeartbeats 4000000 in
set_option maxRecDepth 100000 in
theorem k_openEdition {lA : Launch} (hlt : lA.stackTraces = false) {D : jv_D} {base : Nat} {z : Nat → Nat → Nat} {T : Nat → Nat} {N : Nat → Nat → Nat} {tO : Nat → Nat} {h : jv_H} {M : mA} (hR : cl_R z T N tO h M) {p0 : Int32} : jv_Met lA D base yX7_openEdition (.code yX7_openEdition cX7_openEdition 3 (some (.object "LinkArchive$Edition"))) 3 2 12 [.ref (z 6 0), .int p0] h (fun v h' => ∃ k, k < M.1.length ∧ p0 = nI k ∧ m_ix1 M.1.length p0 = some k ∧ ma_s M k = false ∧ v = some (.ref (z 0 k)) ∧ h = h') (fun c h' => h = h' ∧ ((m_ix1 M.1.length p0 = none ∧ c = "java/lang/IndexOutOfBoundsException") ∨ ∃ k, m_ix1 M.1.length p0 = some k ∧ ma_s M k = true ∧ c = "java/lang/IllegalStateException")) := by
  refine jv_ofV (lo := [(0, .ref (z 6 0)), (1, .int p0)]) hlt (by decide) (Nat.le_of_ble_eq_true rfl) rfl (fun E hEl hEd hEz Z G hr ht hnm => ?_)
  subst hEl; subst hEd; subst hEz
  have hl8 := hR.1.2.1.2.1; have hl12 := hR.1.2.1.2.2.2
  refine jv_aload_n (q := 1) G 0 dX7_openEdition_0 rfl rfl rfl ?_
  refine jv_iload_n (q := 2) G 1 dX7_openEdition_1 rfl rfl rfl ?_
  refine jv_callV (q := 5) (As := [.int p0]) (rest := []) G Z ml_X7_220 (k_editionAt hlt hR) hR.1.1.1 dX7_openEdition_2 rfl (by decide) (by decide) (by decide) (by decide) (Nat.le_of_ble_eq_true rfl) rfl rfl (fun v2 h1 y3 => ?_) (fun cx hx yx => jv_out G ht (Nat.le_of_ble_eq_true rfl) (Nat.le_of_ble_eq_true rfl) (⟨yx.2.2, Or.inl ⟨yx.1, yx.2.1⟩⟩))
  obtain ⟨u0, hu0, rfl, zu0, rfl, rfl⟩ := y3
  show jv_V E 3 h (0 + 1) (0 + 6) (jv_Q E (fun v h' => ∃ k, k < M.1.length ∧ (nI u0) = nI k ∧ m_ix1 M.1.length (nI u0) = some k ∧ ma_s M k = false ∧ v = some (.ref (z 0 k)) ∧ h = h') (fun c h' => h = h' ∧ ((m_ix1 M.1.length (nI u0) = none ∧ c = "java/lang/IndexOutOfBoundsException") ∨ ∃ k, m_ix1 M.1.length (nI u0) = some k ∧ ma_s M k = true ∧ c = "java/lang/IllegalStateException")) 2 12) 5 [(0, .ref (z 6 0)), (1, .int (nI u0))] [.ref (z 0 u0)]
  have q8u0 : u0 < 8 := by omega
  refine jv_astore_n (q := 6) (lo' := [(2, .ref (z 0 u0)), (0, .ref (z 6 0)), (1, .int (nI u0))]) G dX7_openEdition_5 rfl (by decide) rfl rfl ?_
  refine jv_aload_n (q := 7) G 0 dX7_openEdition_6 rfl rfl rfl ?_
  refine jv_getZ (q := 10) G dX7_openEdition_7 fl_X7_155 rfl (hR.1.2.2.1 u0 q8u0).1.1.1 (hR.1.2.2.1 u0 q8u0).2.2.1 rfl ?_
  refine jv_if_eqB (q := 13) (tgt := 24) G dX7_openEdition_10 (by decide) rfl (fun c4 => ?_) (fun c4 => ?_)
  · refine jv_aload_n (q := 25) G 0 dX7_openEdition_24 rfl rfl rfl ?_
    refine jv_aretQ G hr dX7_openEdition_25 (Nat.le_of_ble_eq_true rfl) (Nat.le_of_ble_eq_true rfl) ?_
    exact ⟨u0, hu0, rfl, zu0, c4, rfl, rfl⟩
  · refine jv_throwSW (text := "the edition is sealed") G Z ht th_288 (by decide) (by decide) dX7_openEdition_13 dX7_openEdition_16 dX7_openEdition_17 dX7_openEdition_20 dX7_openEdition_23 (Nat.le_of_ble_eq_true rfl) (by decide) (by decide) ?_
    exact ⟨rfl, Or.inr ⟨u0, zu0, c4, rfl⟩⟩
set_option maxHeartbeats 4000000 in
set_option maxRecDepth 100000 in
theorem k_sealedEdition {lA : Launch} (hlt : lA.stackTraces = false) {D : jv_D} {base : Nat} {z : Nat → Nat → Nat} {T : Nat → Nat} {N : Nat → Nat → Nat} {tO : Nat → Nat} {h : jv_H} {M : mA} (hR : cl_R z T N tO h M) {p0 : Int32} : jv_Met lA D base yX7_sealedEdition (.code yX7_sealedEdition cX7_sealedEdition 3 (some (.object "LinkArchive$Edition"))) 3 2 12 [.ref (z 6 0), .int p0] h (fun v h' => ∃ k, k < M.1.length ∧ p0 = nI k ∧ m_ix1 M.1.length p0 = some k ∧ ma_s M k = true ∧ v = some (.ref (z 0 k)) ∧ h = h') (fun c h' => h = h' ∧ ((m_ix1 M.1.length p0 = none ∧ c = "java/lang/IndexOutOfBoundsException") ∨ ∃ k, m_ix1 M.1.length p0 = some k ∧ ma_s M k = false ∧ c = "java/lang/IllegalStateException")) := by
  refine jv_ofV (lo := [(0, .ref (z 6 0)), (1, .int p0)]) hlt (by decide) (Nat.le_of_ble_eq_true rfl) rfl (fun E hEl hEd hEz Z G hr ht hnm => ?_)
  subst hEl; subst hEd; subst hEz
  have hl8 := hR.1.2.1.2.1; have hl12 := hR.1.2.1.2.2.2
  refine jv_aload_n (q := 1) G 0 dX7_sealedEdition_0 rfl rfl rfl ?_
  refine jv_iload_n (q := 2) G 1 dX7_sealedEdition_1 rfl rfl rfl ?_
  refine jv_callV (q := 5) (As := [.int p0]) (rest := []) G Z ml_X7_220 (k_editionAt hlt hR) hR.1.1.1 dX7_sealedEdition_2 rfl (by decide) (by decide) (by decide) (by decide) (Nat.le_of_ble_eq_true rfl) rfl rfl (fun v2 h1 y3 => ?_) (fun cx hx yx => jv_out G ht (Nat.le_of_ble_eq_true rfl) (Nat.le_of_ble_eq_true rfl) (⟨yx.2.2, Or.inl ⟨yx.1, yx.2.1⟩⟩))
  obtain ⟨u0, hu0, rfl, zu0, rfl, rfl⟩ := y3
  show jv_V E 3 h (0 + 1) (0 + 6) (jv_Q E (fun v h' => ∃ k, k < M.1.length ∧ (nI u0) = nI k ∧ m_ix1 M.1.length (nI u0) = some k ∧ ma_s M k = true ∧ v = some (.ref (z 0 k)) ∧ h = h') (fun c h' => h = h' ∧ ((m_ix1 M.1.length (nI u0) = none ∧ c = "java/lang/IndexOutOfBoundsException") ∨ ∃ k, m_ix1 M.1.length (nI u0) = some k ∧ ma_s M k = false ∧ c = "java/lang/IllegalStateException")) 2 12) 5 [(0, .ref (z 6 0)), (1, .int (nI u0))] [.ref (z 0 u0)]
  have q8u0 : u0 < 8 := by omega
  refine jv_astore_n (q := 6) (lo' := [(2, .ref (z 0 u0)), (0, .ref (z 6 0)), (1, .int (nI u0))]) G dX7_sealedEdition_5 rfl (by decide) rfl rfl ?_
  refine jv_aload_n (q := 7) G 0 dX7_sealedEdition_6 rfl rfl rfl ?_
  refine jv_callS (q := 10) (As := [.ref (z 0 u0)]) (rest := []) G Z ml_X7_227 (k_refuseOpen hlt hR q8u0) dX7_sealedEdition_7 rfl (by decide) (by decide) (by decide) (by decide) (Nat.le_of_ble_eq_true rfl) rfl rfl (fun v6 h5 y7 => ?_) (fun cx hx yx => jv_out G ht (Nat.le_of_ble_eq_true rfl) (Nat.le_of_ble_eq_true rfl) (⟨yx.2.2, Or.inr ⟨u0, zu0, yx.1, yx.2.1⟩⟩))
  obtain ⟨hs4, rfl, rfl⟩ := y7
  show jv_V E 3 h (0 + 1 + 1) (0 + 6 + 6) (jv_Q E (fun v h' => ∃ k, k < M.1.length ∧ (nI u0) = nI k ∧ m_ix1 M.1.length (nI u0) = some k ∧ ma_s M k = true ∧ v = some (.ref (z 0 k)) ∧ h = h') (fun c h' => h = h' ∧ ((m_ix1 M.1.length (nI u0) = none ∧ c = "java/lang/IndexOutOfBoundsException") ∨ ∃ k, m_ix1 M.1.length (nI u0) = some k ∧ ma_s M k = false ∧ c = "java/lang/IllegalStateException")) 2 12) 10 [(2, .ref (z 0 u0)), (0, .ref (z 6 0)), (1, .int (nI u0))] []
  refine jv_aload_n (q := 11) G 0 dX7_sealedEdition_10 rfl rfl rfl ?_
  refine jv_aretQ G hr dX7_sealedEdition_11 (Nat.le_of_ble_eq_true rfl) (Nat.le_of_ble_eq_true rfl) ?_
  exact ⟨u0, hu0, rfl, zu0, hs4, rfl, rfl⟩
theorem pa_1a {M : mA} {a b : Int32} (h : m_ix1 M.1.length a = none) : m_paF M a b = 1 := by unfold m_paF; rw [h]
theorem pa_1b {M : mA} {a b : Int32} (h : m_ix1 M.1.length b = none) : m_paF M a b = 1 := by
  unfold m_paF
  rw [h]
  cases m_ix1 M.1.length a <;> rfl
theorem pa_2a {M : mA} {a b : Int32} {i j : Nat} (h : m_ix1 M.1.length a = some i) (h2 : m_ix1 M.1.length b = some j) (hs : ma_s M i = false) : m_paF M a b = 2 := by unfold m_paF; rw [h, h2]; dsimp only; rw [hs]; rfl
theorem pa_2b {M : mA} {a b : Int32} {i j : Nat} (h : m_ix1 M.1.length a = some i) (h2 : m_ix1 M.1.length b = some j) (hs : ma_s M j = false) : m_paF M a b = 2 := by unfold m_paF; rw [h, h2]; dsimp only; rw [hs]; cases ma_s M i <;> rfl
theorem pa_0 {M : mA} {a b : Int32} {i j : Nat} (h : m_ix1 M.1.length a = some i) (h2 : m_ix1 M.1.length b = some j) (hs : ma_s M i = true) (hs2 : ma_s M j = true) : m_paF M a b = 0 := by unfold m_paF; rw [h, h2]; dsimp only; rw [hs, hs2]; rfl
set_option maxHeartbeats 4000000 in
set_option maxRecDepth 100000 in
theorem k_refuseUnfitPair {lA : Launch} (hlt : lA.stackTraces = false) {D : jv_D} {base : Nat} {z : Nat → Nat → Nat} {T : Nat → Nat} {N : Nat → Nat → Nat} {tO : Nat → Nat} {h : jv_H} {M : mA} (hR : cl_R z T N tO h M) {p0 p1 : Int32} : jv_Met lA D base yX7_refuseUnfitPair (.code yX7_refuseUnfitPair cX7_refuseUnfitPair 5 none) 3 4 24 [.ref (z 6 0), .int p0, .int p1] h (fun v h' => ∃ i j, i < M.1.length ∧ j < M.1.length ∧ p0 = nI i ∧ p1 = nI j ∧ m_ix1 M.1.length p0 = some i ∧ m_ix1 M.1.length p1 = some j ∧ ma_s M i = true ∧ ma_s M j = true ∧ v = none ∧ h = h') (fun c h' => h = h' ∧ ((m_paF M p0 p1 = 1 ∧ c = "java/lang/IndexOutOfBoundsException") ∨ (m_paF M p0 p1 = 2 ∧ c = "java/lang/IllegalStateException"))) := by
  refine jv_ofV (lo := [(0, .ref (z 6 0)), (1, .int p0), (2, .int p1)]) hlt (by decide) (Nat.le_of_ble_eq_true rfl) rfl (fun E hEl hEd hEz Z G hr ht hnm => ?_)
  subst hEl; subst hEd; subst hEz
  have hl8 := hR.1.2.1.2.1; have hl12 := hR.1.2.1.2.2.2
  refine jv_aload_n (q := 1) G 0 dX7_refuseUnfitPair_0 rfl rfl rfl ?_
  refine jv_iload_n (q := 2) G 1 dX7_refuseUnfitPair_1 rfl rfl rfl ?_
  refine jv_callV (q := 5) (As := [.int p0]) (rest := []) G Z ml_X7_220 (k_editionAt hlt hR) hR.1.1.1 dX7_refuseUnfitPair_2 rfl (by decide) (by decide) (by decide) (by decide) (Nat.le_of_ble_eq_true rfl) rfl rfl (fun v2 h1 y3 => ?_) (fun cx hx yx => jv_out G ht (Nat.le_of_ble_eq_true rfl) (Nat.le_of_ble_eq_true rfl) (⟨yx.2.2, Or.inl ⟨pa_1a yx.1, yx.2.1⟩⟩))
  obtain ⟨u0, hu0, rfl, zu0, rfl, rfl⟩ := y3
  show jv_V E 5 h (0 + 1) (0 + 6) (jv_Q E (fun v h' => ∃ i j, i < M.1.length ∧ j < M.1.length ∧ (nI u0) = nI i ∧ p1 = nI j ∧ m_ix1 M.1.length (nI u0) = some i ∧ m_ix1 M.1.length p1 = some j ∧ ma_s M i = true ∧ ma_s M j = true ∧ v = none ∧ h = h') (fun c h' => h = h' ∧ ((m_paF M (nI u0) p1 = 1 ∧ c = "java/lang/IndexOutOfBoundsException") ∨ (m_paF M (nI u0) p1 = 2 ∧ c = "java/lang/IllegalStateException"))) 4 24) 5 [(0, .ref (z 6 0)), (1, .int (nI u0)), (2, .int p1)] [.ref (z 0 u0)]
  have q8u0 : u0 < 8 := by omega
  refine jv_astore_n (q := 6) (lo' := [(3, .ref (z 0 u0)), (0, .ref (z 6 0)), (1, .int (nI u0)), (2, .int p1)]) G dX7_refuseUnfitPair_5 rfl (by decide) rfl rfl ?_
  refine jv_aload_n (q := 7) G 1 dX7_refuseUnfitPair_6 rfl rfl rfl ?_
  refine jv_iload_n (q := 8) G 3 dX7_refuseUnfitPair_7 rfl rfl rfl ?_
  refine jv_callV (q := 11) (As := [.int p1]) (rest := []) G Z ml_X7_220 (k_editionAt hlt hR) hR.1.1.1 dX7_refuseUnfitPair_8 rfl (by decide) (by decide) (by decide) (by decide) (Nat.le_of_ble_eq_true rfl) rfl rfl (fun v5 h4 y6 => ?_) (fun cx hx yx => jv_out G ht (Nat.le_of_ble_eq_true rfl) (Nat.le_of_ble_eq_true rfl) (⟨yx.2.2, Or.inl ⟨pa_1b yx.1, yx.2.1⟩⟩))
  obtain ⟨u1, hu1, rfl, zu1, rfl, rfl⟩ := y6
  show jv_V E 5 h (0 + 1 + 1) (0 + 6 + 6) (jv_Q E (fun v h' => ∃ i j, i < M.1.length ∧ j < M.1.length ∧ (nI u0) = nI i ∧ (nI u1) = nI j ∧ m_ix1 M.1.length (nI u0) = some i ∧ m_ix1 M.1.length (nI u1) = some j ∧ ma_s M i = true ∧ ma_s M j = true ∧ v = none ∧ h = h') (fun c h' => h = h' ∧ ((m_paF M (nI u0) (nI u1) = 1 ∧ c = "java/lang/IndexOutOfBoundsException") ∨ (m_paF M (nI u0) (nI u1) = 2 ∧ c = "java/lang/IllegalStateException"))) 4 24) 11 [(3, .ref (z 0 u0)), (0, .ref (z 6 0)), (1, .int (nI u0)), (2, .int (nI u1))] [.ref (z 0 u1)]
  have q8u1 : u1 < 8 := by omega
  refine jv_astore (q := 13) (lo' := [(4, .ref (z 0 u1)), (3, .ref (z 0 u0)), (0, .ref (z 6 0)), (1, .int (nI u0)), (2, .int (nI u1))]) G dX7_refuseUnfitPair_11 (by decide) rfl rfl ?_
  refine jv_aload_n (q := 14) G 1 dX7_refuseUnfitPair_13 rfl rfl rfl ?_
  refine jv_callS (q := 17) (As := [.ref (z 0 u0)]) (rest := []) G Z ml_X7_227 (k_refuseOpen hlt hR q8u0) dX7_refuseUnfitPair_14 rfl (by decide) (by decide) (by decide) (by decide) (Nat.le_of_ble_eq_true rfl) rfl rfl (fun v9 h8 y10 => ?_) (fun cx hx yx => jv_out G ht (Nat.le_of_ble_eq_true rfl) (Nat.le_of_ble_eq_true rfl) (⟨yx.2.2, Or.inr ⟨pa_2a zu0 zu1 yx.1, yx.2.1⟩⟩))
  obtain ⟨hs7, rfl, rfl⟩ := y10
  show jv_V E 5 h (0 + 1 + 1 + 1) (0 + 6 + 6 + 6) (jv_Q E (fun v h' => ∃ i j, i < M.1.length ∧ j < M.1.length ∧ (nI u0) = nI i ∧ (nI u1) = nI j ∧ m_ix1 M.1.length (nI u0) = some i ∧ m_ix1 M.1.length (nI u1) = some j ∧ ma_s M i = true ∧ ma_s M j = true ∧ v = none ∧ h = h') (fun c h' => h = h' ∧ ((m_paF M (nI u0) (nI u1) = 1 ∧ c = "java/lang/IndexOutOfBoundsException") ∨ (m_paF M (nI u0) (nI u1) = 2 ∧ c = "java/lang/IllegalStateException"))) 4 24) 17 [(4, .ref (z 0 u1)), (3, .ref (z 0 u0)), (0, .ref (z 6 0)), (1, .int (nI u0)), (2, .int (nI u1))] []
  refine jv_aload (q := 19) G 0 dX7_refuseUnfitPair_17 rfl rfl ?_
  refine jv_callS (q := 22) (As := [.ref (z 0 u1)]) (rest := []) G Z ml_X7_227 (k_refuseOpen hlt hR q8u1) dX7_refuseUnfitPair_19 rfl (by decide) (by decide) (by decide) (by decide) (Nat.le_of_ble_eq_true rfl) rfl rfl (fun v13 h12 y14 => ?_) (fun cx hx yx => jv_out G ht (Nat.le_of_ble_eq_true rfl) (Nat.le_of_ble_eq_true rfl) (⟨yx.2.2, Or.inr ⟨pa_2b zu0 zu1 yx.1, yx.2.1⟩⟩))
  obtain ⟨hs11, rfl, rfl⟩ := y14
  show jv_V E 5 h (0 + 1 + 1 + 1 + 1) (0 + 6 + 6 + 6 + 6) (jv_Q E (fun v h' => ∃ i j, i < M.1.length ∧ j < M.1.length ∧ (nI u0) = nI i ∧ (nI u1) = nI j ∧ m_ix1 M.1.length (nI u0) = some i ∧ m_ix1 M.1.length (nI u1) = some j ∧ ma_s M i = true ∧ ma_s M j = true ∧ v = none ∧ h = h') (fun c h' => h = h' ∧ ((m_paF M (nI u0) (nI u1) = 1 ∧ c = "java/lang/IndexOutOfBoundsException") ∨ (m_paF M (nI u0) (nI u1) = 2 ∧ c = "java/lang/IllegalStateException"))) 4 24) 22 [(4, .ref (z 0 u1)), (3, .ref (z 0 u0)), (0, .ref (z 6 0)), (1, .int (nI u0)), (2, .int (nI u1))] []
  refine jv_vret G hr dX7_refuseUnfitPair_22 (Nat.le_of_ble_eq_true rfl) (Nat.le_of_ble_eq_true rfl) ?_
  exact ⟨u0, u1, hu0, hu1, rfl, rfl, zu0, zu1, hs7, hs11, rfl, rfl⟩
set_option maxHeartbeats 4000000 in
set_option maxRecDepth 100000 in
theorem k_newEdition {lA : Launch} (hlt : lA.stackTraces = false) {D : jv_D} {base : Nat} {z : Nat → Nat → Nat} {T : Nat → Nat} {N : Nat → Nat → Nat} {tO : Nat → Nat} {h : jv_H} {M : mA} (hR : cl_R z T N tO h M) : jv_Met lA D base yX7_newEdition (.code yX7_newEdition cX7_newEdition 1 (some (.object "LinkArchive$Edition"))) 1 1 6 [.ref (z 6 0)] h (fun v h' => M.1.length < 8 ∧ v = some (.ref (z 0 M.1.length)) ∧ h' = jv_wI h (z 6 0) 1 (nI (M.1.length + 1))) (fun c h' => M.1.length = 8 ∧ c = "java/lang/UnsupportedOperationException" ∧ h = h') := by
  refine jv_ofV (lo := [(0, .ref (z 6 0))]) hlt (by decide) (Nat.le_of_ble_eq_true rfl) rfl (fun E hEl hEd hEz Z G hr ht hnm => ?_)
  subst hEl; subst hEd; subst hEz
  have hl8 := hR.1.2.1.2.1; have hl12 := hR.1.2.1.2.2.2
  have q8 : M.1.length ≤ 8 := hl8
  refine jv_aload_n (q := 1) G 0 dX7_newEdition_0 rfl rfl rfl ?_
  refine jv_getI (q := 4) G dX7_newEdition_1 fl_X7_252 rfl hR.1.1.1 hR.1.2.1.1 rfl ?_
  refine jv_bipush (q := 6) (v := nI 8) G dX7_newEdition_4 (by decide) rfl ?_
  refine jv_icmp_ltN (q := 9) (tgt := 20) G dX7_newEdition_6 (by decide) rfl (by omega) (by omega) (fun c1 => ?_) (fun c1 => ?_)
  · refine jv_aload_n (q := 21) G 0 dX7_newEdition_20 rfl rfl rfl ?_
    refine jv_dup (q := 22) G dX7_newEdition_21 rfl rfl ?_
    refine jv_getI (q := 25) G dX7_newEdition_22 fl_X7_252 rfl hR.1.1.1 hR.1.2.1.1 rfl ?_
    refine jv_iconst (q := 26) (v := nI 1) G dX7_newEdition_25 (by decide) rfl ?_
    refine jv_iaddN (q := 27) G dX7_newEdition_26 rfl ?_
    refine jv_putI (q := 30) G dX7_newEdition_27 fl_X7_252 rfl hR.1.1.1 rfl ?_
    refine jv_aload_n (q := 31) G 0 dX7_newEdition_30 rfl rfl rfl ?_
    refine jv_getQ (q := 34) G dX7_newEdition_31 fl_X7_11 rfl hR.1.1.1 hR.1.1.2.1 rfl ?_
    refine jv_aload_n (q := 35) G 0 dX7_newEdition_34 rfl rfl rfl ?_
    refine jv_getI (q := 38) G dX7_newEdition_35 fl_X7_252 rfl hR.1.1.1 (jv_I_self _ _ _ _) rfl ?_
    refine jv_iconst (q := 39) (v := nI 1) G dX7_newEdition_38 (by decide) rfl ?_
    refine jv_isubN (q := 40) G dX7_newEdition_39 (by omega) rfl ?_
    refine jv_topI (y := nI M.1.length) (by rw [show M.1.length + 1 - 1 = M.1.length by omega]) ?_
    refine jv_aaldQ (q := 41) G dX7_newEdition_40 hR.1.1.2.2.1 rfl (by omega) (by decide) (hR.1.1.2.2.2.2.2.2.2.2.2.1 M.1.length (by omega)) rfl ?_
    refine jv_aretQ G hr dX7_newEdition_41 (Nat.le_of_ble_eq_true rfl) (Nat.le_of_ble_eq_true rfl) ?_
    exact ⟨by omega, rfl, rfl⟩
  · refine jv_throwSW (text := "there are all the editions") G Z ht th_88 (by decide) (by decide) dX7_newEdition_9 dX7_newEdition_12 dX7_newEdition_13 dX7_newEdition_16 dX7_newEdition_19 (Nat.le_of_ble_eq_true rfl) (by decide) (by decide) ?_
    exact ⟨by omega, rfl, rfl⟩
set_option maxHeartbeats 4000000 in
set_option maxRecDepth 100000 in
theorem k_typeOf {lA : Launch} (hlt : lA.stackTraces = false) {D : jv_D} {base : Nat} {z : Nat → Nat → Nat} {T : Nat → Nat} {N : Nat → Nat → Nat} {h : jv_H} {e : Nat} {ts : List mT} (hE : cv_E z T N h e ts) {p0 : Int32} : jv_Met lA D base yX7_typeOf (.code yX7_typeOf cX7_typeOf 3 (some (.object "LinkArchive$Type"))) 2 1 6 [.ref (z 0 e), .int p0] h (fun v h' => ∃ k, m_at ts p0 = some k ∧ v = some (.ref (T (10 * e + k))) ∧ h = h') (fun c h' => m_at ts p0 = none ∧ c = "java/lang/IllegalArgumentException" ∧ h = h') := by
  refine jv_ofV (lo := [(0, .ref (z 0 e)), (1, .int p0)]) hlt (by decide) (Nat.le_of_ble_eq_true rfl) rfl (fun E hEl hEd hEz Z G hr ht hnm => ?_)
  subst hEl; subst hEd; subst hEz
  skip
  refine jv_aload_n (q := 1) G 0 dX7_typeOf_0 rfl rfl rfl ?_
  refine jv_iload_n (q := 2) G 1 dX7_typeOf_1 rfl rfl rfl ?_
  refine jv_callV_R (q := 5) (h1 := h) (As := [.int p0]) (rest := []) (ce' := 0) (sl' := 0) (r := ((m_at ts p0).map (fun k => T (10 * e + k)))) G Z ml_X7_79 (k_named hlt hE) hE.1.1 dX7_typeOf_2 rfl (by decide) (by decide) (by decide) (by decide) (Nat.le_of_ble_eq_true rfl) rfl rfl rfl rfl ?_
  rcases Option.eq_none_or_eq_some (m_at ts p0) with hk3 | ⟨k1, hk3⟩
  · refine jv_topR (y := none) (by rw [hk3]; rfl) ?_
    refine jv_astore_nR (q := 6) (lo' := [(2, va_rf none), (0, .ref (z 0 e)), (1, .int p0)]) (x := none) G dX7_typeOf_5 rfl (by decide) rfl rfl ?_
    refine jv_aload_nR (q := 7) G 0 dX7_typeOf_6 rfl rfl rfl ?_
    refine jv_ifnonnull (q := 10) (tgt := 21) (x := none) G dX7_typeOf_7 (by decide) rfl (fun a5 c4 => ?_) (fun c4 => ?_)
    · cases c4
    · refine jv_throwSW (text := "no such type") G Z ht th_70 (by decide) (by decide) dX7_typeOf_10 dX7_typeOf_13 dX7_typeOf_14 dX7_typeOf_17 dX7_typeOf_20 (Nat.le_of_ble_eq_true rfl) (by decide) (by decide) ?_
      exact ⟨hk3, rfl, rfl⟩
  · refine jv_topR (y := (some (T (10 * e + k1)))) (by rw [hk3]; rfl) ?_
    obtain ⟨t2, ht2, nt2⟩ := m_at_get hk3
    have lt2 := jv_ltGet ht2
    have k10t2 : k1 < 10 := by have := hE.2.2.2.1; omega
    have Ot2 := (hE.2.2.2.2.1 k1 t2 ht2).2
    have Vt2 := (hE.2.2.2.2.1 k1 t2 ht2).1
    have Yt2 := hE.2.1 k1 k10t2
    have bt2n := Ot2.1; have bt2k := Ot2.2.1
    refine jv_astore_n (q := 6) (lo' := [(2, .ref (T (10 * e + k1))), (0, .ref (z 0 e)), (1, .int p0)]) G dX7_typeOf_5 rfl (by decide) rfl rfl ?_
    refine jv_aload_n (q := 7) G 0 dX7_typeOf_6 rfl rfl rfl ?_
    refine jv_ifnonnull (q := 10) (tgt := 21) (x := (some (T (10 * e + k1)))) G dX7_typeOf_7 (by decide) rfl (fun a7 c6 => ?_) (fun c6 => ?_)
    · refine jv_aload_n (q := 22) G 0 dX7_typeOf_21 rfl rfl rfl ?_
      refine jv_aretQ G hr dX7_typeOf_22 (Nat.le_of_ble_eq_true rfl) (Nat.le_of_ble_eq_true rfl) ?_
      exact ⟨k1, hk3, rfl, rfl⟩
    · cases c6
set_option maxHeartbeats 4000000 in
set_option maxRecDepth 100000 in
theorem k_useAt {lA : Launch} (hlt : lA.stackTraces = false) {D : jv_D} {base : Nat} {z : Nat → Nat → Nat} {h : jv_H} {c n : Nat} (lc : cl_c z h c) (h4 : jv_I h (z 3 c) 4 = nI n) (hn : n ≤ 20) {p0 : Int32} : jv_Met lA D base yX7_useAt (.code yX7_useAt cX7_useAt 2 (some (.object "LinkArchive$Use"))) 2 1 6 [.ref (z 3 c), .int p0] h (fun v h' => ∃ k, k < n ∧ p0 = nI k ∧ m_ix1 n p0 = some k ∧ v = some (.ref (z 5 (20 * c + k))) ∧ h = h') (fun c h' => m_ix1 n p0 = none ∧ c = "java/lang/IndexOutOfBoundsException" ∧ h = h') := by
  refine jv_ofV (lo := [(0, .ref (z 3 c)), (1, .int p0)]) hlt (by decide) (Nat.le_of_ble_eq_true rfl) rfl (fun E hEl hEd hEz Z G hr ht hnm => ?_)
  subst hEl; subst hEd; subst hEz
  skip
  refine jv_iload_n (q := 1) G 1 dX7_useAt_0 rfl rfl rfl ?_
  refine jv_aload_n (q := 2) G 0 dX7_useAt_1 rfl rfl rfl ?_
  refine jv_getI (q := 5) G dX7_useAt_2 fl_X7_196 rfl lc.1 h4 rfl ?_
  refine jv_callS_I (q := 8) (h1 := h) (As := [.int p0, .int (nI n)]) (rest := []) (ce' := 0) (sl' := 0) (r := jv_bI (rr_lt p0 n)) G Z ml_X7_66 (k_isBelow hlt) dX7_useAt_5 rfl (by decide) (by decide) (by decide) (by decide) (Nat.le_of_ble_eq_true rfl) rfl rfl rfl rfl ?_
  refine jv_if_neB (q := 11) (tgt := 22) G dX7_useAt_8 (by decide) rfl (fun c1 => ?_) (fun c1 => ?_)
  · obtain ⟨u0, hu0, eu0, zu0⟩ := rr_lt_t (by omega) c1
    subst eu0
    refine jv_aload_n (q := 23) G 0 dX7_useAt_22 rfl rfl rfl ?_
    refine jv_getQ (q := 26) G dX7_useAt_23 fl_X7_201 rfl lc.1 lc.2.1 rfl ?_
    refine jv_iload_n (q := 27) G 1 dX7_useAt_26 rfl rfl rfl ?_
    refine jv_aaldQ (q := 28) G dX7_useAt_27 lc.2.2.1 rfl (by omega) (by decide) (lc.2.2.2 u0 (by omega)) rfl ?_
    refine jv_aretQ G hr dX7_useAt_28 (Nat.le_of_ble_eq_true rfl) (Nat.le_of_ble_eq_true rfl) ?_
    exact ⟨u0, hu0, rfl, zu0, rfl, rfl⟩
  · have zu0 := rr_lt_f c1
    refine jv_throwSW (text := "no such use") G Z ht th_283 (by decide) (by decide) dX7_useAt_11 dX7_useAt_14 dX7_useAt_15 dX7_useAt_18 dX7_useAt_21 (Nat.le_of_ble_eq_true rfl) (by decide) (by decide) ?_
    exact ⟨zu0, rfl, rfl⟩
