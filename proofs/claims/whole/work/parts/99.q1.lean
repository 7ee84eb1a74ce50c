/-! answers: the class's words against the reference's -/
def xm (l : List String) (k : Nat) : String := (l[k - 1]?).getD ""
def pC (z : Nat → Nat → Nat) (tO : Nat → Nat) (h : jv_H) (o : Nat × Int32 × mA) : Option Value → jv_H → Prop := fun v h' => o.1 = 0 ∧ v = some (.int o.2.1) ∧ (∃ T N, cl_R z T N tO h' o.2.2) ∧ sF cs h h'
def pX (z : Nat → Nat → Nat) (tO : Nat → Nat) (h : jv_H) (l : List String) (o : Nat × Int32 × mA) : String → jv_H → Prop := fun c h' => ¬ o.1 = 0 ∧ c = xm l o.1 ∧ (∃ T N, cl_R z T N tO h' o.2.2) ∧ sF cs h h'
theorem se_1 {M : mA} {e : Int32} (h : m_ix1 M.1.length e = none) : m_seF M e = 1 := by unfold m_seF; rw [h]
theorem se_2 {M : mA} {e : Int32} {k : Nat} (h : m_ix1 M.1.length e = some k) (hs : ma_s M k = false) : m_seF M e = 2 := by unfold m_seF; rw [h]; dsimp only; rw [hs]; rfl
theorem se_0 {M : mA} {e : Int32} {k : Nat} (h : m_ix1 M.1.length e = some k) (hs : ma_s M k = true) : m_seF M e = 0 := by unfold m_seF; rw [h]; dsimp only; rw [hs]; rfl
theorem above_eq {M : mA} {e u v : Int32} {k : Nat} (h : m_ix1 M.1.length e = some k) (hs : m_so (ma_t M k)) : m_above M e u v = jv_bI (c_ha (ma_t M k) (m_Us (ma_t M k)) u v) := by
  unfold m_above
  rw [h, ha_isA hs]
theorem find_eq {M : mA} {e n a s : Int32} {b : Bool} {k : Nat} (h : m_ix1 M.1.length e = some k) (hs : m_so (ma_t M k)) : m_find M e n b a s = c_nm (ma_t M k) ((m_at (ma_t M k) n).bind (fun i => c_fd (ma_t M k) (m_Us (ma_t M k)) i b (ky a s))) := by
  unfold m_find
  rw [h]
  dsimp only
  cases hn : m_at (ma_t M k) n with
  | none => rfl
  | some i =>
    obtain ⟨t, ht, -⟩ := m_at_get hn
    dsimp only
    rw [Option.bind_some]
    cases b with
    | true =>
      rw [fd_fm hs ht, if_pos rfl]
      cases m_fm (ma_t M k) 11 i a s <;> rfl
    | false =>
      rw [fd_ff hs ht, if_neg (by decide)]
      cases m_ff (ma_t M k) 11 i a s <;> rfl
theorem select_eq {M : mA} {e n a s rc : Int32} {k : Nat} (h : m_ix1 M.1.length e = some k) (hs : m_so (ma_t M k)) : m_select M e n a s rc = c_nm (ma_t M k) (c_rn (ma_t M k) (m_Us (ma_t M k)) (m_at (ma_t M k) n) (ky a s) rc) := by
  unfold m_select
  rw [h]
  dsimp only
  cases hn : m_at (ma_t M k) n with
  | none => rw [rn_nn]; rfl
  | some i =>
    obtain ⟨t, ht, -⟩ := m_at_get hn
    dsimp only
    rw [ht]
    dsimp only
    rw [own_1 (hs.ok ht)]
    cases hj : m_oc t true (ky a s) with
    | none =>
      unfold c_rn
      cases m_cn (ma_t M k) rc false with
      | none => rfl
      | some r =>
        dsimp only
        have : c_sl (ma_t M k) (m_Us (ma_t M k)) i (ky a s) r = none := by
          unfold c_sl
          rw [ht]
          dsimp only
          have e1 : m_om t true (ky a s) = none := by unfold m_om; rw [hj]; rfl
          rw [e1]
        rw [this]; rfl
    | some j =>
      obtain ⟨m, hm, -, -⟩ := oc_some hj
      dsimp only
      rw [hm]
      dsimp only
      cases hr : m_at (ma_t M k) rc with
      | none => rw [rn_cn (cn_n hr)]; rfl
      | some r =>
        obtain ⟨tr, htr, -⟩ := m_at_get hr
        dsimp only
        rw [htr]
        dsimp only
        cases hi : mt_i tr with
        | true => rw [rn_cn (cn_t hr htr hi)]; rfl
        | false =>
          rw [if_neg (by decide)]
          have e2 : c_rn (ma_t M k) (m_Us (ma_t M k)) (some i) (ky a s) rc = (m_sl (ma_t M k) 11 t m i j r).map Prod.fst := by
            unfold c_rn
            rw [cn_f hr htr hi]
            exact sl_sl hs ht hj hm htr
          rw [e2]
          cases m_sl (ma_t M k) 11 t m i j r <;> rfl
theorem w2_some {M : mA} {c u : Int32} {k j : Nat} {C : mC} {U : mU} (h : m_ix1 M.2.length c = some k) (hC : M.2[k]? = some C) (hj : m_ix1 (mc_l C).length u = some j) (hU : (mc_l C)[j]? = some U) : m_u2 M c u = some (C, U) := by
  unfold m_u2
  rw [h]
  dsimp only
  rw [hC]
  dsimp only
  rw [hj]
  dsimp only
  rw [hU]
theorem u2_n1 {M : mA} {c u : Int32} (h : m_ix1 M.2.length c = none) : m_u2 M c u = none := by unfold m_u2; rw [h]
theorem u2_n2 {M : mA} {c u : Int32} {k : Nat} {C : mC} (h : m_ix1 M.2.length c = some k) (hC : M.2[k]? = some C) (hj : m_ix1 (mc_l C).length u = none) : m_u2 M c u = none := by
  unfold m_u2
  rw [h]
  dsimp only
  rw [hC]
  dsimp only
  rw [hj]
theorem u3_some {M : mA} {c e u : Int32} {i : Nat} {p : mC × mU} (h : m_ix1 M.1.length e = some i) (hp : m_u2 M c u = some p) : m_u3 M c e u = some (p.1, i, p.2) := by unfold m_u3; rw [h, hp]
theorem u3_n1 {M : mA} {c e u : Int32} (h : m_ix1 M.1.length e = none) : m_u3 M c e u = none := by unfold m_u3; rw [h]
theorem u3_n2 {M : mA} {c e u : Int32} (h : m_u2 M c u = none) : m_u3 M c e u = none := by
  unfold m_u3
  rw [h]
  cases m_ix1 M.1.length e <;> rfl
theorem us_1 {M : mA} {c e u : Int32} (h : m_u3 M c e u = none) : m_usF M c e u = 1 := by unfold m_usF; rw [h]
theorem us_2 {M : mA} {c e u : Int32} {p : mC × Nat × mU} (h : m_u3 M c e u = some p) (hs : ma_s M p.2.1 = false) : m_usF M c e u = 2 := by unfold m_usF; rw [h]; dsimp only; rw [hs]; rfl
theorem us_0 {M : mA} {c e u : Int32} {p : mC × Nat × mU} (h : m_u3 M c e u = some p) (hs : ma_s M p.2.1 = true) : m_usF M c e u = 0 := by unfold m_usF; rw [h]; dsimp only; rw [hs]; rfl
theorem cp_1 {M : mA} {c u : Int32} (h : m_u2 M c u = none) : m_cpF M c u = 1 := by unfold m_cpF; rw [h]
theorem cp_0 {M : mA} {c u : Int32} {p : mC × mU} (h : m_u2 M c u = some p) : m_cpF M c u = 0 := by unfold m_cpF; rw [h]
theorem copied_eq {M : mA} {c u : Int32} {C : mC} {U : mU} (h : m_u2 M c u = some (C, U)) (hs : m_so (ma_t M (mc_e C))) : m_copied M c u = c_cv (ma_t M (mc_e C)) (m_Us (ma_t M (mc_e C))) (mu_k U) (mu_t U) (ky (mu_n U) (mu_s U)) := by
  unfold m_copied
  rw [h, (co_cv hs).1]
  rfl
/-- the meeting of a use, by the class's words -/
theorem mu_eq {M : mA} {C : mC} {e : Nat} {U : mU} (hsC : m_so (ma_t M (mc_e C))) (hs : m_so (ma_t M e)) (hu : ∀ u, mc_u C = some u → u < 16) (hk : mu_k U < 6) : (m_mu M C e U).1 = c_mx (decide (e = mc_e C)) (ma_t M e) (m_Us (ma_t M e)) (mc_p C) (mc_u C) (c_U M C U) ∧ (((m_mu M C e U).1 = 0 ∨ (m_mu M C e U).1 = 8) → jv_oN (m_mu M C e U).2 = if m_mt (mu_k U) then (if m_rv (mu_k U) then c_nm (ma_t M e) (c_rn (ma_t M e) (m_Us (ma_t M e)) (c_ho (ma_t M e) (m_Us (ma_t M e)) (mu_k U) (mu_t U) (ky (mu_n U) (mu_s U))) (ky (mu_n U) (mu_s U)) (mu_r U)) else c_nm (ma_t M e) (c_ho (ma_t M e) (m_Us (ma_t M e)) (mu_k U) (mu_t U) (ky (mu_n U) (mu_s U)))) else -1) := met_me hsC hs (fun q => by rw [of_decide_eq_true q]) hu hk
theorem foretell_eq {M : mA} {c e u : Int32} {p : mC × Nat × mU} (h : m_u3 M c e u = some p) : m_foretell M c e u = nI (m_mu M p.1 p.2.1 p.2.2).1 := by unfold m_foretell; rw [h]
theorem runs_eq {M : mA} {c e u : Int32} {p : mC × Nat × mU} (h : m_u3 M c e u = some p) : m_runs M c e u = if (m_mu M p.1 p.2.1 p.2.2).1 = 0 ∨ (m_mu M p.1 p.2.1 p.2.2).1 = 8 then jv_oN (m_mu M p.1 p.2.1 p.2.2).2 else -1 := by unfold m_runs; rw [h]
theorem ce_1 {M : mA} {c e : Int32} (h : m_ix1 M.2.length c = none) : m_ceF M c e = 1 := by unfold m_ceF; rw [h]
theorem cF_1 {M : mA} {c : Int32} (h : m_ix1 M.2.length c = none) : m_cF M c = 1 := by unfold m_cF; rw [h]
theorem cF_0 {M : mA} {c : Int32} {k : Nat} (h : m_ix1 M.2.length c = some k) : m_cF M c = 0 := by unfold m_cF; rw [h]
theorem eF_1 {M : mA} {e : Int32} (h : m_ix1 M.1.length e = none) : m_eF M e = 1 := by unfold m_eF; rw [h]
theorem eF_0 {M : mA} {e : Int32} {k : Nat} (h : m_ix1 M.1.length e = some k) : m_eF M e = 0 := by unfold m_eF; rw [h]
theorem pX_c {z : Nat → Nat → Nat} {T : Nat → Nat} {N : Nat → Nat → Nat} {tO : Nat → Nat} {h : jv_H} {M : mA} (hR : cl_R z T N tO h M) {L : List String} {code n : Nat} {val : Int32} {c : String} (e : code = n) (hn : ¬ n = 0) (hc : c = xm L n) : pX z tO h L (code, val, M) c h := by
  subst e
  exact ⟨hn, hc, ⟨T, N, hR⟩, .rf⟩
theorem pC_c {z : Nat → Nat → Nat} {T : Nat → Nat} {N : Nat → Nat → Nat} {tO : Nat → Nat} {h : jv_H} {M : mA} (hR : cl_R z T N tO h M) {code : Nat} {val : Int32} {v : Option Value} (e : code = 0) (hv : v = some (.int val)) : pC z tO h (code, val, M) v h := ⟨e, hv, ⟨T, N, hR⟩, .rf⟩
theorem ce_2 {M : mA} {c e : Int32} {k : Nat} (h : m_ix1 M.2.length c = some k) (h2 : m_ix1 M.1.length e = none) : m_ceF M c e = 1 := by unfold m_ceF; rw [h]; dsimp only; rw [h2]
theorem ce_3 {M : mA} {c e : Int32} {k i : Nat} (h : m_ix1 M.2.length c = some k) (h2 : m_ix1 M.1.length e = some i) (hs : ma_s M i = false) : m_ceF M c e = 2 := by unfold m_ceF; rw [h]; dsimp only; rw [h2]; dsimp only; rw [hs]; rfl
theorem ce_0 {M : mA} {c e : Int32} {k i : Nat} (h : m_ix1 M.2.length c = some k) (h2 : m_ix1 M.1.length e = some i) (hs : ma_s M i = true) : m_ceF M c e = 0 := by unfold m_ceF; rw [h]; dsimp only; rw [h2]; dsimp only; rw [hs]; rfl
theorem uses_1 {M : mA} {c : Int32} (h : m_ix1 M.2.length c = none) : m_uses M c = (1, 0) := by unfold m_uses; rw [h]
theorem uses_0 {M : mA} {c : Int32} {k : Nat} {C : mC} (h : m_ix1 M.2.length c = some k) (hC : M.2[k]? = some C) : m_uses M c = (0, (mc_l C).length) := by unfold m_uses; rw [h]; dsimp only; rw [hC]; rfl
theorem hm_eq {M : mA} {C : mC} {i : Nat} {w : Int32} (hsC : m_so (ma_t M (mc_e C))) (hs : m_so (ma_t M i)) (hu : ∀ u, mc_u C = some u → u < 16) (hk : ∀ u ∈ mc_l C, mu_k u < 6) (j : Nat) : c_hm (decide (i = mc_e C)) (ma_t M i) (m_Us (ma_t M i)) (mc_p C) (mc_u C) ((mc_l C).map (c_U M C)) w j = m_mtp M C i w j := by
  unfold c_hm m_mtp
  rw [List.getElem?_map]
  cases hU : (mc_l C)[j]? with
  | none => rfl
  | some U =>
    show decide (nI (c_mx _ _ _ _ _ _) = w) = decide (nI (m_mu M C i U).1 = w)
    rw [(mu_eq hsC hs hu (hk U (List.mem_of_getElem? hU))).1]
theorem meets_v {M : mA} {c e w : Int32} {k i : Nat} {C : mC} (h : m_ix1 M.2.length c = some k) (hC : M.2[k]? = some C) (h2 : m_ix1 M.1.length e = some i) : m_meets M c e w = nI (fb_ct (m_mtp M C i w) (mc_l C).length) := by unfold m_meets; rw [h]; dsimp only; rw [hC]; dsimp only; rw [h2]
