set_option maxHeartbeats 4000000 in
set_option maxRecDepth 100000 in
theorem k_e0_loop {E : jv_E} {Q : State → Prop} {h1 : jv_H} {c arr : Nat} {g0 : nG} (x2 : jv_sh h1 c = some (.inl 2)) (x4 : jv_P h1 c 2 = some arr) (x5 : jv_sh h1 arr = some (.inr (.object "LinkArchive$Type", 10))) (hlt : (jv_l E).stackTraces = false) (G : jv_C E cX2_init RX2 3) (Z : jv_rm E = jv_room 3 102 726) (hk : ∀ hh g u, rowT h1 hh arr g0 g u 10 → jv_V E 3 hh 102 726 Q 54 [] []) : ∀ (n i : Nat) (hh : jv_H) (g : nG) (u : Nat → Nat), i + n = 10 → rowT h1 hh arr g0 g u i → jv_V E 3 hh (2 + 10 * i) (26 + 70 * i) Q 29 [(2, .int (nI i)), (0, .ref c)] [] := by
  have nca : c ≠ arr := fun q => by rw [q, x5] at x2; cases x2
  intro n
  induction n with
  | zero =>
    intro i hh g u hn hrow
    have smc := hrow.1 c nca (sh_ne x2)
    refine jv_iload_n (q := 30) G 0 dX2_init_29 rfl rfl rfl ?_
    refine jv_bipush (q := 32) (v := nI 10) G dX2_init_30 (by decide) rfl ?_
    refine jv_icmp_geN (q := 35) (tgt := 54) G dX2_init_32 (by decide) rfl (by omega) (by omega) (fun c1 => ?_) (fun c1 => ?_)
    · refine jv_lo [] (lo' := []) rfl ?_
      rw [show i = 10 by omega] at hrow ⊢
      exact hk _ _ _ hrow
    · omega
  | succ n ih =>
    intro i hh g u hn hrow
    have smc := hrow.1 c nca (sh_ne x2)
    refine jv_iload_n (q := 30) G 0 dX2_init_29 rfl rfl rfl ?_
    refine jv_bipush (q := 32) (v := nI 10) G dX2_init_30 (by decide) rfl ?_
    refine jv_icmp_geN (q := 35) (tgt := 54) G dX2_init_32 (by decide) rfl (by omega) (by omega) (fun c1 => ?_) (fun c1 => ?_)
    · omega
    · refine jv_aload_n (q := 36) G 1 dX2_init_35 rfl rfl rfl ?_
      refine jv_getQ (q := 39) G dX2_init_36 fl_X2_11 rfl (smc.1.trans x2) ((smc.2.2.2 2).trans x4) rfl ?_
      refine jv_iload_n (q := 40) G 0 dX2_init_39 rfl rfl rfl ?_
      refine jv_newc (q := 43) G dX2_init_40 nw_X2_9 rfl (by rw [Z]; show 2 + 10 * i + 1 ≤ 102; omega) (by rw [Z]; show 26 + 70 * i + 15 ≤ 726; omega) rfl (fun a2 fa2 => ?_)
      refine jv_dup (q := 44) G dX2_init_43 rfl rfl ?_
      have ca := ne_no fa2 (sh_ne (hrow.2.1.trans x5))
      refine jv_callI (q := 47) (As := []) (rest := [.ref a2, .int (nI i), .ref arr]) G Z ml_X2_24 (k_tInit hlt nw_sh (fun _ => nw_I) (fun _ => nw_L)) dX2_init_44 rfl (by decide) (by decide) (by show 2 + 10 * i + 1 + 9 ≤ 102; omega) (by show 26 + 70 * i + 15 + 55 ≤ 726; omega) (Nat.le_of_ble_eq_true rfl) rfl rfl (fun v4 h3 y5 => ?_)
      obtain ⟨rfl, fx, c8, c9, c10, wv, nt⟩ := y5
      show jv_V E 3 h3 (2 + 10 * i + 1 + 9) (26 + 70 * i + 15 + 55) Q 47 [(2, .int (nI i)), (0, .ref c)] [.ref a2, .int (nI i), .ref arr]
      have sar : jv_sh h3 arr = some (.inr (.object "LinkArchive$Type", 10)) := (fx arr ca (by rw [(sm_new ca).1]; exact sh_ne (hrow.2.1.trans x5))).1.trans ((sm_new ca).1.trans (hrow.2.1.trans x5))
      refine jv_aast (q := 48) G (ci := 5) rfl dX2_init_47 sar nt.1 rfl (by omega) (by decide) rfl ?_
      refine jv_iinc (q := 51) (lo' := [(2, .int (nI (i + 1))), (0, .ref c)]) (v := nI (i + 1)) G 0 dX2_init_48 rfl (nI_1 i) (by decide) rfl rfl ?_
      refine jv_goto (q := 29) G dX2_init_51 (by decide) ?_
      refine jv_cs (ce' := 2 + 10 * (i + 1)) (sl' := 26 + 70 * (i + 1)) (by omega) (by omega) ?_
      refine jv_lo [0, 1] (lo' := [(2, .int (nI (i + 1))), (0, .ref c)]) rfl ?_
      exact ih (i + 1) _ _ _ (by omega) (hrow.step fa2 fx nt)
set_option maxHeartbeats 4000000 in
set_option maxRecDepth 100000 in
theorem k_eInit {lA : Launch} (hlt : lA.stackTraces = false) {D : jv_D} {base : Nat} {h : jv_H} {c e : Nat} {g0 : nG} (hc : jv_sh h c = some (.inl 2)) (hz : ∀ j, jv_I h c j = 0) : jv_Met lA D base yX2_init (.code yX2_init cX2_init 3 none) 3 102 726 [.ref c, .int (nI e)] h (fun v h' => v = none ∧ exs (fun b => b = c) h h' ∧ ∃ g b1 b2 u, nE h h' g0 g c e b1 b2 u) jv_no := by
  refine jv_ofV (lo := [(0, .ref c), (1, .int (nI e))]) hlt (by decide) (Nat.le_of_ble_eq_true rfl) rfl (fun E hEl hEd hEz Z G hr ht hnm => ?_)
  subst hEl; subst hEd; subst hEz
  refine jv_aload_n (q := 1) G 0 dX2_init_0 rfl rfl rfl ?_
  refine jv_objInit (q := 4) G dX2_init_1 oi_X2_3 (by rw [Z]; decide) (by rw [Z]; decide) (Nat.le_of_ble_eq_true rfl) rfl ?_
  refine jv_aload_n (q := 5) G 0 dX2_init_4 rfl rfl rfl ?_
  refine jv_bipush (q := 7) (v := nI 10) G dX2_init_5 (by decide) rfl ?_
  refine jv_anew (q := 10) (C := "LinkArchive$Type") (N := 10) G dX2_init_7 (by decide) an_X2_9.1 an_X2_9.2 rfl (by decide) (by rw [Z]; show 0 + 1 ≤ 102; omega) (by rw [Z]; show 0 + 10 ≤ 726; omega) rfl (fun a1 fa1 => ?_)
  refine jv_putFQ (q := 13) G hnm dX2_init_10 fl_X2_11 (fun r h => by cases h; rfl) rfl ((sm_new (ne_no fa1 (sh_ne hc))).1.trans hc) rfl ?_
  have nc1 : c ≠ a1 := ne_no fa1 (sh_ne hc)
  have x1 : exs (fun b => b = c) h (jv_wP (jv_new h a1 (.inr (.object "LinkArchive$Type", 10))) c 2 (some a1)) := (exs_new fa1).tr (exs_wP (Or.inr rfl))
  have x2 : jv_sh (jv_wP (jv_new h a1 (.inr (.object "LinkArchive$Type", 10))) c 2 (some a1)) c = some (.inl 2) := by rw [jv_sh_wP, jv_sh_new, if_neg nc1]; exact hc
  have x3 : ∀ j, jv_I (jv_wP (jv_new h a1 (.inr (.object "LinkArchive$Type", 10))) c 2 (some a1)) c j = 0 := fun j => by rw [jv_I_wP, jv_I_new, if_neg nc1]; exact hz j
  have x4 : jv_P (jv_wP (jv_new h a1 (.inr (.object "LinkArchive$Type", 10))) c 2 (some a1)) c 2 = some a1 := jv_P_self _ _ _ _
  have x5 : jv_sh (jv_wP (jv_new h a1 (.inr (.object "LinkArchive$Type", 10))) c 2 (some a1)) a1 = some (.inr (.object "LinkArchive$Type", 10)) := by rw [jv_sh_wP, nw_sh]
  generalize jv_wP (jv_new h a1 (.inr (.object "LinkArchive$Type", 10))) c 2 (some a1) = h1 at x1 x2 x3 x4 x5 ⊢
  refine jv_aload_n (q := 14) G 0 dX2_init_13 rfl rfl rfl ?_
  refine jv_bipush (q := 16) (v := nI 16) G dX2_init_14 (by decide) rfl ?_
  refine jv_anew (q := 19) (C := "LinkArchive$Type") (N := 16) G dX2_init_16 (by decide) an_X2_9.1 an_X2_9.2 rfl (by decide) (by rw [Z]; show 0 + 1 + 1 ≤ 102; omega) (by rw [Z]; show 0 + 10 + 16 ≤ 726; omega) rfl (fun a2 fa2 => ?_)
  refine jv_putFQ (q := 22) G hnm dX2_init_19 fl_X2_17 (fun r h => by cases h; rfl) rfl ((sm_new (ne_no fa2 (sh_ne x2))).1.trans x2) rfl ?_
  have nc2 : c ≠ a2 := ne_no fa2 (sh_ne x2)
  have n12 : a1 ≠ a2 := ne_no fa2 (sh_ne x5)
  have f22 : jv_sh h a2 = none := x1.fresh fa2 nc2.symm
  have y1 : exs (fun b => b = c) h (jv_wP (jv_new h1 a2 (.inr (.object "LinkArchive$Type", 16))) c 4 (some a2)) := x1.tr ((exs_new fa2).tr (exs_wP (Or.inr rfl)))
  have y2 : jv_sh (jv_wP (jv_new h1 a2 (.inr (.object "LinkArchive$Type", 16))) c 4 (some a2)) c = some (.inl 2) := by rw [jv_sh_wP, jv_sh_new, if_neg nc2]; exact x2
  have y3 : ∀ j, jv_I (jv_wP (jv_new h1 a2 (.inr (.object "LinkArchive$Type", 16))) c 4 (some a2)) c j = 0 := fun j => by rw [jv_I_wP, jv_I_new, if_neg nc2]; exact x3 j
  have y4 : jv_P (jv_wP (jv_new h1 a2 (.inr (.object "LinkArchive$Type", 16))) c 4 (some a2)) c 2 = some a1 := by rw [jv_P_wP, if_neg (fun q => absurd q.2 (by decide)), jv_P_new, if_neg nc2]; exact x4
  have y5 : jv_sh (jv_wP (jv_new h1 a2 (.inr (.object "LinkArchive$Type", 16))) c 4 (some a2)) a1 = some (.inr (.object "LinkArchive$Type", 10)) := by rw [jv_sh_wP, jv_sh_new, if_neg n12]; exact x5
  have y6 : jv_P (jv_wP (jv_new h1 a2 (.inr (.object "LinkArchive$Type", 16))) c 4 (some a2)) c 4 = some a2 := jv_P_self _ _ _ _
  have y7 : jv_sh (jv_wP (jv_new h1 a2 (.inr (.object "LinkArchive$Type", 16))) c 4 (some a2)) a2 = some (.inr (.object "LinkArchive$Type", 16)) := by rw [jv_sh_wP, nw_sh]
  have y8 : ∀ j, jv_P (jv_wP (jv_new h1 a2 (.inr (.object "LinkArchive$Type", 16))) c 4 (some a2)) a2 j = none := fun j => by rw [jv_P_wP, if_neg (fun q => nc2 q.1.symm), nw_P]
  generalize jv_wP (jv_new h1 a2 (.inr (.object "LinkArchive$Type", 16))) c 4 (some a2) = h2 at y1 y2 y3 y4 y5 y6 y7 y8 ⊢
  refine jv_aload_n (q := 23) G 0 dX2_init_22 rfl rfl rfl ?_
  refine jv_iload_n (q := 24) G 1 dX2_init_23 rfl rfl rfl ?_
  refine jv_putFI (q := 27) G hnm dX2_init_24 fl_X2_20 (fun r h => by cases h; rfl) rfl y2 rfl ?_
  have n1c : a1 ≠ c := fun q => by rw [q, y2] at y5; cases y5
  have n2c : a2 ≠ c := fun q => by rw [q, y2] at y7; cases y7
  have z1 : exs (fun b => b = c) h (jv_wI h2 c 0 (nI e)) := y1.tr (fun b n e => sm_wI n)
  have z2 : jv_sh (jv_wI h2 c 0 (nI e)) c = some (.inl 2) := y2
  have z3 : jv_I (jv_wI h2 c 0 (nI e)) c 0 = nI e := jv_I_self _ _ _ _
  have z3b : ∀ j, j ≠ 0 → jv_I (jv_wI h2 c 0 (nI e)) c j = 0 := fun j hj => by rw [oI_o, if_neg hj]; exact y3 j
  have z4 : jv_P (jv_wI h2 c 0 (nI e)) c 2 = some a1 := y4
  have z5 : jv_sh (jv_wI h2 c 0 (nI e)) a1 = some (.inr (.object "LinkArchive$Type", 10)) := y5
  have z6 : jv_P (jv_wI h2 c 0 (nI e)) c 4 = some a2 := y6
  have z7 : jv_sh (jv_wI h2 c 0 (nI e)) a2 = some (.inr (.object "LinkArchive$Type", 16)) := y7
  have z8 : ∀ j, jv_P (jv_wI h2 c 0 (nI e)) a2 j = none := y8
  generalize jv_wI h2 c 0 (nI e) = h3 at z1 z2 z3 z3b z4 z5 z6 z7 z8 ⊢
  refine jv_iconst (q := 28) (v := nI 0) G dX2_init_27 (by decide) rfl ?_
  refine jv_istore_n (q := 29) (lo' := [(2, .int (nI 0)), (0, .ref c), (1, .int (nI e))]) G dX2_init_28 rfl (by decide) rfl rfl ?_
  refine jv_lo [0, 1] (lo' := [(2, .int (nI 0)), (0, .ref c)]) rfl ?_
  refine k_e0_loop (g0 := g0) z2 z4 z5 hlt G Z (fun hh g u hrow => ?_) 10 0 h3 g0 (fun _ => 0) (by omega) (rowT.start (sh_ne z5))
  refine jv_vret G hr dX2_init_54 (Nat.le_of_ble_eq_true rfl) (Nat.le_of_ble_eq_true rfl) ?_
  have nca : c ≠ a1 := n1c.symm
  have n21 : a2 ≠ a1 := fun q => by rw [q, z5] at z7; cases z7
  have s0 := hrow.1 c nca (sh_ne z2)
  have s2 := hrow.1 a2 n21 (sh_ne z7)
  exact ⟨rfl, z1.tr2 hrow.1 fa1, g, a1, a2, u, s0.1.trans z2, (s0.2.1 0).trans z3, fun j hj => (s0.2.1 j).trans (z3b j hj), (s0.2.2.2 2).trans z4, hrow.2.1.trans z5, (s0.2.2.2 4).trans z6, s2.1.trans z7, fun j => (s2.2.2.2 j).trans (z8 j), fa1, f22, h3, z1, sh_ne z2, sh_ne z7, hrow⟩
/-- a new comparison; a new probe -/
def nK (h0 h : jv_H) (c : Nat) (q : Nat → Nat) (n : Nat) : Prop := jv_sh h c = some (.inl 1) ∧ jv_I h c 0 = 0 ∧ jv_I h c 1 = -1 ∧ jv_I h c 2 = -1 ∧ exs (fun b => b = c) h0 h ∧ (∀ k, 3 ≤ k → k < n → jv_P h c k = some (q k) ∧ jv_sh h (q k) = some (.inr (ck_ty k, ck_n k)) ∧ jv_sh h0 (q k) = none) ∧ (∀ i j, 3 ≤ i → i < n → 3 ≤ j → j < n → q i = q j → i = j) ∧ jv_sh h0 c ≠ none
theorem nK.step {h0 h : jv_H} {c a n : Nat} {q : Nat → Nat} (r : nK h0 h c q n) (hn : 3 ≤ n) (ha : jv_sh h a = none) : nK h0 (jv_wP (jv_new h a (.inr (ck_ty n, ck_n n))) c n (some a)) c (fup q n a) (n + 1) := by
  obtain ⟨r1, r2, r3, r4, r5, r6, r7, r8⟩ := r
  have hca : c ≠ a := ne_no ha (sh_ne r1)
  have ha0 : jv_sh h0 a = none := r5.fresh ha hca.symm
  have hq : ∀ k, 3 ≤ k → k < n → q k ≠ a := fun k h1 h2 => ne_no ha (sh_ne (r6 k h1 h2).2.1)
  refine ⟨by rw [jv_sh_wP, jv_sh_new, if_neg hca]; exact r1, by rw [jv_I_wP, jv_I_new, if_neg hca]; exact r2, by rw [jv_I_wP, jv_I_new, if_neg hca]; exact r3, by rw [jv_I_wP, jv_I_new, if_neg hca]; exact r4, r5.tr ((exs_new ha).tr (exs_wP (Or.inr rfl))), fun k h1 h2 => ?_, fun i j h1 h2 h3 h4 e => ?_, r8⟩
  · by_cases y : k = n
    · subst y
      rw [fup_s]
      exact ⟨by rw [jv_P_wP, if_pos ⟨rfl, rfl⟩], by rw [jv_sh_wP, nw_sh], ha0⟩
    · rw [fup_n y]
      obtain ⟨c1, c2, c3⟩ := r6 k h1 (by omega)
      exact ⟨by rw [jv_P_wP, if_neg (fun q => y q.2), jv_P_new, if_neg hca]; exact c1, by rw [jv_sh_wP, jv_sh_new, if_neg (hq k h1 (by omega))]; exact c2, c3⟩
  · by_cases y : i = n <;> by_cases y2 : j = n
    · omega
    · rw [y, fup_s, fup_n y2] at e
      exact absurd e.symm (hq j h3 (by omega))
    · rw [y2, fup_s, fup_n y] at e
      exact absurd e (hq i h1 (by omega))
    · rw [fup_n y, fup_n y2] at e
      exact r7 i j h1 (by omega) h3 (by omega) e
set_option maxHeartbeats 4000000 in
set_option maxRecDepth 100000 in
theorem k_kInit {lA : Launch} (hlt : lA.stackTraces = false) {D : jv_D} {base : Nat} {h : jv_H} {c : Nat} (hc : jv_sh h c = some (.inl 1)) (hz : ∀ j, jv_I h c j = 0) : jv_Met lA D base yX1_init (.code yX1_init cX1_init 1 none) 1 7 3230 [.ref c] h (fun v h' => v = none ∧ ∃ q, nK h h' c q 10) jv_no := by
  refine jv_ofV (lo := [(0, .ref c)]) hlt (by decide) (Nat.le_of_ble_eq_true rfl) rfl (fun E hEl hEd hEz Z G hr ht hnm => ?_)
  subst hEl; subst hEd; subst hEz
  refine jv_aload_n (q := 1) G 0 dX1_init_0 rfl rfl rfl ?_
  refine jv_objInit (q := 4) G dX1_init_1 oi_X1_3 (by rw [Z]; decide) (by rw [Z]; decide) (Nat.le_of_ble_eq_true rfl) rfl ?_
  refine jv_aload_n (q := 5) G 0 dX1_init_4 rfl rfl rfl ?_
  refine jv_iconst (q := 6) (v := (-1)) G dX1_init_5 (by decide) rfl ?_
  refine jv_putI (q := 9) G dX1_init_6 fl_X1_9 rfl hc rfl ?_
  refine jv_aload_n (q := 10) G 0 dX1_init_9 rfl rfl rfl ?_
  refine jv_iconst (q := 11) (v := (-1)) G dX1_init_10 (by decide) rfl ?_
  refine jv_putI (q := 14) G dX1_init_11 fl_X1_15 rfl hc rfl ?_
  have r : nK h (jv_wI (jv_wI h c 1 (-1)) c 2 (-1)) c (fun _ => 0) 3 := ⟨hc, by rw [oI_o, if_neg (by decide), oI_o, if_neg (by decide)]; exact hz 0, by rw [oI_o, if_neg (by decide), oI_o, if_pos rfl], by rw [oI_o, if_pos rfl], (fun b n e => (sm_wI n).tr (sm_wI n)), fun k h1 h2 => by omega, fun i j h1 h2 => by omega, sh_ne hc⟩
  generalize jv_wI (jv_wI h c 1 (-1)) c 2 (-1) = h1 at r ⊢
  refine jv_aload_n (q := 15) G 0 dX1_init_14 rfl rfl rfl ?_
  refine jv_sipush (q := 18) (v := nI 230) G dX1_init_15 (by decide) rfl ?_
  refine jv_newa (q := 20) (ty := .int) (N := 230) G dX1_init_18 rfl jv_ty_int ⟨rfl, by decide, by decide⟩ ac_int rfl (by decide) (by rw [Z]; decide) (by rw [Z]; decide) rfl (fun q1 fq1 => ?_)
  refine jv_putFQ (q := 23) G hnm dX1_init_20 fl_X1_18 (fun r h => by cases h; rfl) rfl ((sm_new (ne_no fq1 (sh_ne r.1))).1.trans r.1) rfl ?_
  have r := r.step (by decide) fq1
  change nK h (jv_wP (jv_new h1 q1 (.inr (.int, 230))) c 3 (some q1)) c _ 4 at r
  generalize jv_wP (jv_new h1 q1 (.inr (.int, 230))) c 3 (some q1) = h2 at r ⊢
  clear fq1
  refine jv_aload_n (q := 24) G 0 dX1_init_23 rfl rfl rfl ?_
  refine jv_sipush (q := 27) (v := nI 230) G dX1_init_24 (by decide) rfl ?_
  refine jv_newa (q := 29) (ty := .int) (N := 230) G dX1_init_27 rfl jv_ty_int ⟨rfl, by decide, by decide⟩ ac_int rfl (by decide) (by rw [Z]; decide) (by rw [Z]; decide) rfl (fun q3 fq3 => ?_)
  refine jv_putFQ (q := 32) G hnm dX1_init_29 fl_X1_22 (fun r h => by cases h; rfl) rfl ((sm_new (ne_no fq3 (sh_ne r.1))).1.trans r.1) rfl ?_
  have r := r.step (by decide) fq3
  change nK h (jv_wP (jv_new h2 q3 (.inr (.int, 230))) c 4 (some q3)) c _ 5 at r
  generalize jv_wP (jv_new h2 q3 (.inr (.int, 230))) c 4 (some q3) = h4 at r ⊢
  clear fq3
  refine jv_aload_n (q := 33) G 0 dX1_init_32 rfl rfl rfl ?_
  refine jv_sipush (q := 36) (v := nI 230) G dX1_init_33 (by decide) rfl ?_
  refine jv_newa (q := 38) (ty := .int) (N := 230) G dX1_init_36 rfl jv_ty_int ⟨rfl, by decide, by decide⟩ ac_int rfl (by decide) (by rw [Z]; decide) (by rw [Z]; decide) rfl (fun q5 fq5 => ?_)
  refine jv_putFQ (q := 41) G hnm dX1_init_38 fl_X1_25 (fun r h => by cases h; rfl) rfl ((sm_new (ne_no fq5 (sh_ne r.1))).1.trans r.1) rfl ?_
  have r := r.step (by decide) fq5
  change nK h (jv_wP (jv_new h4 q5 (.inr (.int, 230))) c 5 (some q5)) c _ 6 at r
  generalize jv_wP (jv_new h4 q5 (.inr (.int, 230))) c 5 (some q5) = h6 at r ⊢
  clear fq5
  refine jv_aload_n (q := 42) G 0 dX1_init_41 rfl rfl rfl ?_
  refine jv_sipush (q := 45) (v := nI 230) G dX1_init_42 (by decide) rfl ?_
  refine jv_newa (q := 47) (ty := .int) (N := 230) G dX1_init_45 rfl jv_ty_int ⟨rfl, by decide, by decide⟩ ac_int rfl (by decide) (by rw [Z]; decide) (by rw [Z]; decide) rfl (fun q7 fq7 => ?_)
  refine jv_putFQ (q := 50) G hnm dX1_init_47 fl_X1_28 (fun r h => by cases h; rfl) rfl ((sm_new (ne_no fq7 (sh_ne r.1))).1.trans r.1) rfl ?_
  have r := r.step (by decide) fq7
  change nK h (jv_wP (jv_new h6 q7 (.inr (.int, 230))) c 6 (some q7)) c _ 7 at r
  generalize jv_wP (jv_new h6 q7 (.inr (.int, 230))) c 6 (some q7) = h8 at r ⊢
  clear fq7
  refine jv_aload_n (q := 51) G 0 dX1_init_50 rfl rfl rfl ?_
  refine jv_sipush (q := 54) (v := nI 230) G dX1_init_51 (by decide) rfl ?_
  refine jv_newa (q := 56) (ty := .boolean) (N := 230) G dX1_init_54 rfl jv_ty_bool ⟨rfl, by decide, by decide⟩ ac_boolean rfl (by decide) (by rw [Z]; decide) (by rw [Z]; decide) rfl (fun q9 fq9 => ?_)
  refine jv_putFQ (q := 59) G hnm dX1_init_56 fl_X1_31 (fun r h => by cases h; rfl) rfl ((sm_new (ne_no fq9 (sh_ne r.1))).1.trans r.1) rfl ?_
  have r := r.step (by decide) fq9
  change nK h (jv_wP (jv_new h8 q9 (.inr (.boolean, 230))) c 7 (some q9)) c _ 8 at r
  generalize jv_wP (jv_new h8 q9 (.inr (.boolean, 230))) c 7 (some q9) = h10 at r ⊢
  clear fq9
  refine jv_aload_n (q := 60) G 0 dX1_init_59 rfl rfl rfl ?_
  refine jv_sipush (q := 63) (v := nI 2048) G dX1_init_60 (by decide) rfl ?_
  refine jv_newa (q := 65) (ty := .int) (N := 2048) G dX1_init_63 rfl jv_ty_int ⟨rfl, by decide, by decide⟩ ac_int rfl (by decide) (by rw [Z]; decide) (by rw [Z]; decide) rfl (fun q11 fq11 => ?_)
  refine jv_putFQ (q := 68) G hnm dX1_init_65 fl_X1_35 (fun r h => by cases h; rfl) rfl ((sm_new (ne_no fq11 (sh_ne r.1))).1.trans r.1) rfl ?_
  have r := r.step (by decide) fq11
  change nK h (jv_wP (jv_new h10 q11 (.inr (.int, 2048))) c 8 (some q11)) c _ 9 at r
  generalize jv_wP (jv_new h10 q11 (.inr (.int, 2048))) c 8 (some q11) = h12 at r ⊢
  clear fq11
  refine jv_aload_n (q := 69) G 0 dX1_init_68 rfl rfl rfl ?_
  refine jv_bipush (q := 71) (v := nI 32) G dX1_init_69 (by decide) rfl ?_
  refine jv_newa (q := 73) (ty := .long) (N := 32) G dX1_init_71 rfl jv_ty_long ⟨rfl, by decide, by decide⟩ ac_long rfl (by decide) (by rw [Z]; decide) (by rw [Z]; decide) rfl (fun q13 fq13 => ?_)
  refine jv_putFQ (q := 76) G hnm dX1_init_73 fl_X1_38 (fun r h => by cases h; rfl) rfl ((sm_new (ne_no fq13 (sh_ne r.1))).1.trans r.1) rfl ?_
  have r := r.step (by decide) fq13
  change nK h (jv_wP (jv_new h12 q13 (.inr (.long, 32))) c 9 (some q13)) c _ 10 at r
  generalize jv_wP (jv_new h12 q13 (.inr (.long, 32))) c 9 (some q13) = h14 at r ⊢
  clear fq13
  refine jv_vret G hr dX1_init_76 (Nat.le_of_ble_eq_true rfl) (Nat.le_of_ble_eq_true rfl) ?_
  exact ⟨rfl, _, r⟩
def nP (h0 h : jv_H) (p c b4 t : Nat) (u : Nat → Nat) : Prop := jv_sh h p = some (.inl 4) ∧ jv_P h p 0 = some c ∧ jv_P h p 1 = some t ∧ jv_sh h t = some (.inl 6) ∧ nC h0 h c b4 u ∧ jv_sh h0 c = none ∧ jv_sh h0 t = none ∧ exs (fun b => b = p) h0 h ∧ t ≠ c ∧ ∀ j, j < 20 → u j ≠ t
set_option maxHeartbeats 4000000 in
set_option maxRecDepth 100000 in
theorem k_pInit {lA : Launch} (hlt : lA.stackTraces = false) {D : jv_D} {base : Nat} {h : jv_H} {p : Nat} (hp : jv_sh h p = some (.inl 4)) : jv_Met lA D base yX4_init (.code yX4_init cX4_init 1 none) 3 23 151 [.ref p] h (fun v h' => v = none ∧ ∃ c b4 t u, nP h h' p c b4 t u) jv_no := by
  refine jv_ofV (lo := [(0, .ref p)]) hlt (by decide) (Nat.le_of_ble_eq_true rfl) rfl (fun E hEl hEd hEz Z G hr ht hnm => ?_)
  subst hEl; subst hEd; subst hEz
  refine jv_aload_n (q := 1) G 0 dX4_init_0 rfl rfl rfl ?_
  refine jv_objInit (q := 4) G dX4_init_1 oi_X4_3 (by rw [Z]; decide) (by rw [Z]; decide) (Nat.le_of_ble_eq_true rfl) rfl ?_
  refine jv_aload_n (q := 5) G 0 dX4_init_4 rfl rfl rfl ?_
  refine jv_newc (q := 8) G dX4_init_5 nw_X4_9 rfl (by rw [Z]; show 0 + 1 ≤ 23; omega) (by rw [Z]; show 0 + 5 ≤ 151; omega) rfl (fun a1 fa1 => ?_)
  refine jv_dup (q := 9) G dX4_init_8 rfl rfl ?_
  have npa : p ≠ a1 := ne_no fa1 (sh_ne hp)
  refine jv_callI (q := 12) (As := []) (rest := [.ref a1, .ref p]) G Z ml_X4_11 (k_cInit hlt nw_sh (fun _ => nw_I)) dX4_init_9 rfl (by decide) (by decide) (by show 0 + 1 + 21 ≤ 23; omega) (by show 0 + 5 + 140 ≤ 151; omega) (Nat.le_of_ble_eq_true rfl) rfl rfl (fun v3 h2 y4 => ?_)
  obtain ⟨rfl, fx, b4, u, nc⟩ := y4
  show jv_V E 1 h2 (0 + 1 + 21) (0 + 5 + 140) (jv_Q E (fun v h' => v = none ∧ ∃ c b4 t u, nP h h' p c b4 t u) jv_no 23 151) 12 [(0, .ref p)] [.ref a1, .ref p]
  refine jv_putFQ (q := 15) G hnm dX4_init_12 fl_X4_12 (fun r h => by cases h; rfl) rfl ((fx p npa (by rw [(sm_new npa).1]; exact sh_ne hp)).1.trans ((sm_new npa).1.trans hp)) rfl ?_
  have h0 : ∀ b, jv_sh (jv_new h a1 (.inl 0)) b = none → jv_sh h b = none := fun b q => by
    rw [jv_sh_new] at q
    split at q
    · cases q
    · exact q
  have fx2 : exs (fun _ => False) h h2 := fun b _ e => (sm_new (ne_no fa1 e)).tr (fx b (ne_no fa1 e) (by rw [(sm_new (ne_no fa1 e)).1]; exact e))
  have x1 : exs (fun b => b = p) h (jv_wP h2 p 0 (some a1)) := fun b n e => (fx2 b (fun q => q) e).tr (sm_wP n)
  have x2 : jv_sh (jv_wP h2 p 0 (some a1)) p = some (.inl 4) := (fx2 p (fun q => q) (sh_ne hp)).1.trans hp
  have x3 : jv_P (jv_wP h2 p 0 (some a1)) p 0 = some a1 := jv_P_self _ _ _ _
  have nc' : nC h (jv_wP h2 p 0 (some a1)) a1 b4 u := by
    have q := nc.later (h2 := (jv_wP h2 p 0 (some a1))) (fun b e y => sm_wP (fun z => by
      subst z
      have e1 := sh_ne hp
      rcases y with y | y | ⟨j, hj, y⟩
      · exact npa y
      · exact e1 (h0 b (by rw [y]; exact nc.2.2.2.2.1))
      · exact e1 (h0 b (by rw [y]; exact (nc.2.2.2.2.2.1 j hj).2.2))))
    obtain ⟨w1, w2, w3, w4, w5, w6, w7⟩ := q
    exact ⟨w1, w2, w3, w4, h0 _ w5, fun j hj => ⟨(w6 j hj).1, (w6 j hj).2.1, h0 _ (w6 j hj).2.2⟩, w7⟩
  clear nc
  generalize jv_wP h2 p 0 (some a1) = h1 at x1 x2 x3 nc' ⊢
  refine jv_aload_n (q := 16) G 0 dX4_init_15 rfl rfl rfl ?_
  refine jv_newc (q := 19) G dX4_init_16 nw_X4_18 rfl (by rw [Z]; show 0 + 1 + 21 + 1 ≤ 23; omega) (by rw [Z]; show 0 + 5 + 140 + 6 ≤ 151; omega) rfl (fun a5 fa5 => ?_)
  refine jv_dup (q := 20) G dX4_init_19 rfl rfl ?_
  refine jv_callIN (q := 23) (As := []) (rest := [.ref a5, .ref p]) G Z ml_X4_20 rfl (jv_p1 150 (by decide +kernel) rfl) (k_uInit hlt) dX4_init_20 rfl (by decide) (by decide) (by show 0 + 1 + 21 + 1 + 0 ≤ 23; omega) (by show 0 + 5 + 140 + 6 + 0 ≤ 151; omega) (Nat.le_of_ble_eq_true rfl) rfl rfl (fun v7 h6 y8 => ?_)
  obtain ⟨rfl, rfl⟩ := y8
  show jv_V E 1 (jv_new h1 a5 (.inl 6)) (0 + 1 + 21 + 1 + 0) (0 + 5 + 140 + 6 + 0) (jv_Q E (fun v h' => v = none ∧ ∃ c b4 t u, nP h h' p c b4 t u) jv_no 23 151) 23 [(0, .ref p)] [.ref a5, .ref p]
  have npt : p ≠ a5 := ne_no fa5 (sh_ne x2)
  refine jv_putFQ (q := 26) G hnm dX4_init_23 fl_X4_21 (fun r h => by cases h; rfl) rfl ((sm_new npt).1.trans x2) rfl ?_
  refine jv_vret G hr dX4_init_26 (Nat.le_of_ble_eq_true rfl) (Nat.le_of_ble_eq_true rfl) ?_
  have kk : ∀ b, jv_sh h1 b ≠ none → b ≠ p → sm b h1 (jv_wP (jv_new h1 a5 (.inl 6)) p 1 (some a5)) := fun b e n => (sm_new (ne_no fa5 e)).tr (sm_wP n)
  refine ⟨rfl, a1, b4, a5, u, ?_, ?_, jv_P_self _ _ _ _, ?_, nc'.later (fun b e y => kk b e (fun z => ?_)), fa1, x1.fresh fa5 npt.symm, fun b n e => (x1 b n e).tr (kk b ((x1 b n e).ne e) n), (ne_no fa5 (sh_ne nc'.1)).symm, fun j hj => ne_no fa5 (sh_ne (nc'.2.2.2.2.2.1 j hj).2.1)⟩
  · rw [jv_sh_wP, (sm_new npt).1]; exact x2
  · rw [jv_P_wP, if_neg (fun q => absurd q.2 (by decide)), (sm_new npt).2.2.2 0]; exact x3
  · rw [jv_sh_wP, nw_sh]
  · subst z
    rcases y with y | y | ⟨j, hj, y⟩
    · exact npa y
    · exact sh_ne hp (by rw [y]; exact nc'.2.2.2.2.1)
    · exact sh_ne hp (by rw [y]; exact (nc'.2.2.2.2.2.1 j hj).2.2)
