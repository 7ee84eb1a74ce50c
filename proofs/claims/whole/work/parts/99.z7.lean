theorem sub_gt {L i : Nat} (hL : L ≤ 4608) (hi : i ≤ 5000) : (nI L - nI 9 < nI i) ↔ L < i + 9 := by
  have e9 : (nI 9).toInt = 9 := by decide
  rw [Int32.lt_iff_toInt_lt, Int32.toInt_sub, e9, nI_toInt (show L < 2 ^ 31 by omega), nI_toInt (show i < 2 ^ 31 by omega)]
  simp only [Int.bmod]
  split <;> omega
theorem and31 (x : Int32) : ∃ k, k < 32 ∧ x &&& nI 31 = nI k := by
  have e : (nI 31).toBitVec.toNat = 31 := by decide
  have h1 : (x &&& nI 31).toBitVec.toNat < 32 := by
    rw [Int32.toBitVec_and, BitVec.toNat_and, e]
    exact Nat.lt_succ_of_le Nat.and_le_right
  refine ⟨(x &&& nI 31).toBitVec.toNat, h1, ?_⟩
  apply Int32.toBitVec_inj.mp
  apply BitVec.eq_of_toNat_eq
  show _ = (BitVec.ofNat 32 _).toNat
  rw [BitVec.toNat_ofNat, Nat.mod_eq_of_lt (by omega)]
set_option maxHeartbeats 4000000 in
set_option maxRecDepth 100000 in
theorem law_loop {E : jv_E} {Q : State → Prop} (hlt : (jv_l E).stackTraces = false) (G : jv_C E cL_law RL 7) (Z : jv_rm E = jv_room 1000 601024 7293034) {b L : Nat} {xs : Nat → Int32} (S : lwS E b L xs) (hL : L ≤ 4608) {z : Nat → Nat → Nat} {tO : Nat → Nat} {m : Nat} {q : Nat → Nat} {o : Nat} (kE : ∀ h' ce' sl', ce' ≤ 600000 → sl' ≤ 7000000 → jv_V E 7 h' ce' sl' Q 2128 [] []) : ∀ (n k : Nat) (h : jv_H) (M : mA) (ce sl : Nat), L < 9 * k + 9 * n + 9 → k + n ≤ 515 → (∃ T N, cl_R z T N tO h M) → rf_R m q h M → jv_sh h o = some (.inr (.long, 1)) → ce ≤ 2000 + 5 * k → sl ≤ 40000 + 30 * k → jv_V E 7 h ce sl Q 23 [(4, .int (nI (9 * k))), (0, .ref b), (1, .ref (z 6 0)), (2, .ref m), (3, .ref o)] [] := by
  intro n
  induction n with
  | zero =>
    intro k h M ce sl hf hk hR hM ho hc hs
    refine jv_iload (q := 25) G 0 dL_law_23 rfl rfl ?_
    refine jv_aload_n (q := 26) G 1 dL_law_25 rfl rfl rfl ?_
    refine jv_slen (q := 27) G S dL_law_26 rfl ?_
    refine jv_bipush (q := 29) (v := nI 9) G dL_law_27 (by decide) rfl ?_
    refine jv_isub (q := 30) G dL_law_29 rfl ?_
    refine jv_icmp_gt (q := 33) (tgt := 2128) G dL_law_30 (by decide) rfl (fun c => ?_) (fun c => ?_)
    · refine jv_lo [] (lo' := []) rfl ?_
      exact kE _ _ _ (by omega) (by omega)
    · have hi : 9 * k + 9 ≤ L := Nat.not_lt.mp (fun y => c ((sub_gt hL (by omega)).mpr y))
      omega
  | succ n ih =>
    intro k h M ce sl hf hk hR hM ho hc hs
    refine jv_iload (q := 25) G 0 dL_law_23 rfl rfl ?_
    refine jv_aload_n (q := 26) G 1 dL_law_25 rfl rfl rfl ?_
    refine jv_slen (q := 27) G S dL_law_26 rfl ?_
    refine jv_bipush (q := 29) (v := nI 9) G dL_law_27 (by decide) rfl ?_
    refine jv_isub (q := 30) G dL_law_29 rfl ?_
    refine jv_icmp_gt (q := 33) (tgt := 2128) G dL_law_30 (by decide) rfl (fun c => ?_) (fun c => ?_)
    · refine jv_lo [] (lo' := []) rfl ?_
      exact kE _ _ _ (by omega) (by omega)
    · have hi : 9 * k + 9 ≤ L := Nat.not_lt.mp (fun y => c ((sub_gt hL (by omega)).mpr y))
      have fin : ∀ h' M' ce' sl', (∃ T N, cl_R z T N tO h' M') → rf_R m q h' M' → jv_sh h' o = some (.inr (.long, 1)) → ce' ≤ ce + 5 → sl' ≤ sl + 30 → jv_V E 7 h' ce' sl' Q 2122 [(4, .int (nI (9 * k))), (0, .ref b), (1, .ref (z 6 0)), (2, .ref m), (3, .ref o)] [] := fun h' M' ce' sl' r1 r2 r3 c1 c2 => by
        refine jv_iinc (q := 2125) (lo' := [(4, .int (nI (9 * k + 9))), (0, .ref b), (1, .ref (z 6 0)), (2, .ref m), (3, .ref o)]) (v := nI (9 * k + 9)) G 0 dL_law_2122 rfl (nI_add (9 * k) 9) (by decide) rfl rfl ?_
        refine jv_goto (q := 23) G dL_law_2125 (by decide) ?_
        have q' := ih (k + 1) h' M' ce' sl' (by omega) (by omega) r1 r2 r3 (by omega) (by omega)
        rw [show 9 * (k + 1) = 9 * k + 9 by omega] at q'
        exact q'
      refine jv_aload_n (q := 34) G 1 dL_law_33 rfl rfl rfl ?_
      refine jv_iload (q := 36) G 0 dL_law_34 rfl rfl ?_
      refine jv_sld (q := 37) G S dL_law_36 (by omega) (by omega) rfl ?_
      refine jv_bipush (q := 39) (v := nI 31) G dL_law_37 (by decide) rfl ?_
      refine jv_iand (q := 40) G dL_law_39 rfl ?_
      obtain ⟨T, N, hR⟩ := hR
      obtain ⟨v, hv, ev⟩ := and31 (xs (9 * k))
      refine jv_topI (y := nI v) ev ?_
      rcases (by omega : v = 0 ∨ v = 1 ∨ v = 2 ∨ v = 3 ∨ v = 4 ∨ v = 5 ∨ v = 6 ∨ v = 7 ∨ v = 8 ∨ v = 9 ∨ v = 10 ∨ v = 11 ∨ v = 12 ∨ v = 13 ∨ v = 14 ∨ v = 15 ∨ v = 16 ∨ v = 17 ∨ v = 18 ∨ v = 19 ∨ v = 20 ∨ v = 21 ∨ v = 22 ∨ 23 ≤ v) with e | e | e | e | e | e | e | e | e | e | e | e | e | e | e | e | e | e | e | e | e | e | e | e
      · subst e
        refine jv_tsIn (tgt := 148) (off := 108) G dL_law_40 (by decide) (by decide) rfl (by decide) ?_
        exact lc_edition hlt G Z S hR hM ho hi hL (by omega) (by omega) fin
      · subst e
        refine jv_tsIn (tgt := 192) (off := 152) G dL_law_40 (by decide) (by decide) rfl (by decide) ?_
        exact lc_copy hlt G Z S hR hM ho hi hL (by omega) (by omega) fin
      · subst e
        refine jv_tsIn (tgt := 248) (off := 208) G dL_law_40 (by decide) (by decide) rfl (by decide) ?_
        exact lc_type hlt G Z S hR hM ho hi hL (by omega) (by omega) fin
      · subst e
        refine jv_tsIn (tgt := 428) (off := 388) G dL_law_40 (by decide) (by decide) rfl (by decide) ?_
        exact lc_implement hlt G Z S hR hM ho hi hL (by omega) (by omega) fin
      · subst e
        refine jv_tsIn (tgt := 508) (off := 468) G dL_law_40 (by decide) (by decide) rfl (by decide) ?_
        exact lc_member hlt G Z S hR hM ho hi hL (by omega) (by omega) fin
      · subst e
        refine jv_tsIn (tgt := 670) (off := 630) G dL_law_40 (by decide) (by decide) rfl (by decide) ?_
        exact lc_drop hlt G Z S hR hM ho hi hL (by omega) (by omega) fin
      · subst e
        refine jv_tsIn (tgt := 781) (off := 741) G dL_law_40 (by decide) (by decide) rfl (by decide) ?_
        exact lc_seal hlt G Z S hR hM ho hi hL (by omega) (by omega) fin
      · subst e
        refine jv_tsIn (tgt := 837) (off := 797) G dL_law_40 (by decide) (by decide) rfl (by decide) ?_
        exact lc_above hlt G Z S hR hM ho hi hL (by omega) (by omega) fin
      · subst e
        refine jv_tsIn (tgt := 924) (off := 884) G dL_law_40 (by decide) (by decide) rfl (by decide) ?_
        exact lc_find hlt G Z S hR hM ho hi hL (by omega) (by omega) fin
      · subst e
        refine jv_tsIn (tgt := 1044) (off := 1004) G dL_law_40 (by decide) (by decide) rfl (by decide) ?_
        exact lc_select hlt G Z S hR hM ho hi hL (by omega) (by omega) fin
      · subst e
        refine jv_tsIn (tgt := 1148) (off := 1108) G dL_law_40 (by decide) (by decide) rfl (by decide) ?_
        exact lc_caller hlt G Z S hR hM ho hi hL (by omega) (by omega) fin
      · subst e
        refine jv_tsIn (tgt := 1228) (off := 1188) G dL_law_40 (by decide) (by decide) rfl (by decide) ?_
        exact lc_use hlt G Z S hR hM ho hi hL (by omega) (by omega) fin
      · subst e
        refine jv_tsIn (tgt := 1346) (off := 1306) G dL_law_40 (by decide) (by decide) rfl (by decide) ?_
        exact lc_foretell hlt G Z S hR hM ho hi hL (by omega) (by omega) fin
      · subst e
        refine jv_tsIn (tgt := 1426) (off := 1386) G dL_law_40 (by decide) (by decide) rfl (by decide) ?_
        exact lc_runs hlt G Z S hR hM ho hi hL (by omega) (by omega) fin
      · subst e
        refine jv_tsIn (tgt := 1506) (off := 1466) G dL_law_40 (by decide) (by decide) rfl (by decide) ?_
        exact lc_copied hlt G Z S hR hM ho hi hL (by omega) (by omega) fin
      · subst e
        refine jv_tsIn (tgt := 1574) (off := 1534) G dL_law_40 (by decide) (by decide) rfl (by decide) ?_
        exact lc_meets hlt G Z S hR hM ho hi hL (by omega) (by omega) fin
      · subst e
        refine jv_tsIn (tgt := 1654) (off := 1614) G dL_law_40 (by decide) (by decide) rfl (by decide) ?_
        exact lc_best hlt G Z S hR hM ho hi hL (by omega) (by omega) fin
      · subst e
        refine jv_tsIn (tgt := 1738) (off := 1698) G dL_law_40 (by decide) (by decide) rfl (by decide) ?_
        exact lc_differ hlt G Z S hR hM ho hi hL (by omega) (by omega) fin
      · subst e
        refine jv_tsIn (tgt := 1806) (off := 1766) G dL_law_40 (by decide) (by decide) rfl (by decide) ?_
        exact lc_difference hlt G Z S hR hM ho hi hL (by omega) (by omega) fin
      · subst e
        refine jv_tsIn (tgt := 1898) (off := 1858) G dL_law_40 (by decide) (by decide) rfl (by decide) ?_
        exact lc_compatible hlt G Z S hR hM ho hi hL (by omega) (by omega) fin
      · subst e
        refine jv_tsIn (tgt := 1973) (off := 1933) G dL_law_40 (by decide) (by decide) rfl (by decide) ?_
        exact lc_count hlt G Z S hR hM ho hi hL (by omega) (by omega) fin
      · subst e
        refine jv_tsIn (tgt := 1998) (off := 1958) G dL_law_40 (by decide) (by decide) rfl (by decide) ?_
        exact lc_look hlt G Z S hR hM ho hi hL (by omega) (by omega) fin
      · subst e
        refine jv_tsIn (tgt := 2066) (off := 2026) G dL_law_40 (by decide) (by decide) rfl (by decide) ?_
        exact lc_uses hlt G Z S hR hM ho hi hL (by omega) (by omega) fin
      · refine jv_tsOut (tgt := 2122) G dL_law_40 (by rw [nI_toInt (by omega)]; omega) (by decide) ?_
        exact fin _ _ _ _ ⟨_, _, hR⟩ hM ho (by omega) (by omega)
set_option maxHeartbeats 4000000 in
set_option maxRecDepth 100000 in
theorem law_all {E : jv_E} {Q : State → Prop} (hlt : (jv_l E).stackTraces = false) (G : jv_C E cL_law RL 7) (Z : jv_rm E = jv_room 1000 601024 7293034) {b L : Nat} {xs : Nat → Int32} (S : lwS E b L xs) (hL : L ≤ 4608) {h : jv_H} (kE : ∀ h' ce' sl', ce' ≤ 600000 → sl' ≤ 7000000 → jv_V E 7 h' ce' sl' Q 2128 [] []) : jv_V E 7 h 0 0 Q 0 [(0, .ref b)] [] := by
  refine jv_newc (q := 3) G dL_law_0 nw_L_8 rfl (by rw [Z]; show 0 + 1 ≤ 601024; omega) (by rw [Z]; show 0 + 7 ≤ 7293034; omega) rfl (fun a1 fa1 => ?_)
  refine jv_dup (q := 4) G dL_law_3 rfl rfl ?_
  refine jv_callI (q := 7) (As := []) (rest := [.ref a1]) G Z ml_L_99 (k_xInit hlt nw_sh (fun _ => nw_I)) dL_law_4 rfl (by decide) (by decide) (by show 0 + 1 + 1123 ≤ 601024; omega) (by show 0 + 7 + 11065 ≤ 7293034; omega) (Nat.le_of_ble_eq_true rfl) rfl rfl (fun v3 h2 y4 => ?_)
  obtain ⟨rfl, fx, z, T, N, tO, hz6, htO, hR⟩ := y4
  show jv_V E 7 h2 (0 + 1 + 1123) (0 + 7 + 11065) Q 7 [(0, .ref b)] [.ref a1]
  have hx0 : a1 = z 6 0 := hz6.symm
  refine jv_astore_n (q := 8) (lo' := [(1, .ref a1), (0, .ref b)]) G dL_law_7 rfl (by decide) rfl rfl ?_
  refine jv_newc (q := 11) G dL_law_8 nw_L_100 rfl (by rw [Z]; show 0 + 1 + 1123 + 1 ≤ 601024; omega) (by rw [Z]; show 0 + 7 + 11065 + 42 ≤ 7293034; omega) rfl (fun a5 fa5 => ?_)
  refine jv_dup (q := 12) G dL_law_11 rfl rfl ?_
  have hn : ∀ c, jv_sh (jv_new h2 a5 (.inl 8)) c = none → jv_sh h2 c = none := fun c q => by
    rw [jv_sh_new] at q
    split at q
    · cases q
    · exact q
  refine jv_callI (q := 15) (As := []) (rest := [.ref a5]) G Z ml_L_102 (r_init hlt nw_sh (fun _ => nw_I)) dL_law_12 rfl (by decide) (by decide) (by show 0 + 1 + 1123 + 1 + 37 ≤ 601024; omega) (by show 0 + 7 + 11065 + 42 + 17026 ≤ 7293034; omega) (Nat.le_of_ble_eq_true rfl) rfl rfl (fun v7 h6 y8 => ?_)
  obtain ⟨rfl, q, hM, fm2, hq0⟩ := y8
  show jv_V E 7 h6 (0 + 1 + 1123 + 1 + 37) (0 + 7 + 11065 + 42 + 17026) Q 15 [(1, .ref a1), (0, .ref b)] [.ref a5]
  have g1 : gF h2 h6 := fun c e => (sm_new (ne_no fa5 e)).tr (fm2 c (ne_no fa5 e) (by rw [(sm_new (ne_no fa5 e)).1]; exact e))
  have hR2 := hR.gr g1 htO
  refine jv_astore_n (q := 16) (lo' := [(2, .ref a5), (1, .ref a1), (0, .ref b)]) G dL_law_15 rfl (by decide) rfl rfl ?_
  refine jv_iconst (q := 17) (v := nI 1) G dL_law_16 (by decide) rfl ?_
  refine jv_newa (q := 19) (ty := .long) (N := 1) G dL_law_17 rfl jv_ty_long ⟨rfl, by decide, by decide⟩ ac_long rfl (by decide) (by rw [Z]; decide) (by rw [Z]; decide) rfl (fun q9 fq9 => ?_)
  refine jv_astore_n (q := 20) (lo' := [(3, .ref q9), (2, .ref a5), (1, .ref a1), (0, .ref b)]) G dL_law_19 rfl (by decide) rfl rfl ?_
  refine jv_iconst (q := 21) (v := nI 0) G dL_law_20 (by decide) rfl ?_
  refine jv_istore (q := 23) (lo' := [(4, .int (nI 0)), (3, .ref q9), (2, .ref a5), (1, .ref a1), (0, .ref b)]) G dL_law_21 (by decide) rfl rfl ?_
  have g2 : gF h6 (jv_new h6 q9 (.inr (.long, 1))) := fun c e => sm_new (ne_no fq9 e)
  have htO2 : ∀ c, jv_sh h6 c = none → tO c = c := fun c e => htO c (by
    cases y : jv_sh h2 c with
    | none => rfl
    | some s => rw [(g1 c (sh_ne y)).1, y] at e; cases e)
  have hR3 := hR2.gr g2 htO2
  have hM3 := hM.gr g2
  refine jv_lo [0, 4, 3, 2, 1] (lo' := [(4, .int (nI 0)), (0, .ref b), (1, .ref a1), (2, .ref a5), (3, .ref q9)]) rfl ?_
  rw [hx0]
  exact law_loop hlt G Z S hL kE 512 0 _ ([], []) _ _ (by omega) (by decide) ⟨_, _, hR3⟩ hM3 nw_sh (by decide) (by decide)
