set_option maxHeartbeats 4000000 in
set_option maxRecDepth 100000 in
theorem k_uInit {lA : Launch} (hlt : lA.stackTraces = false) {D : jv_D} {base : Nat} {h : jv_H} {u : Nat} : jv_Met lA D base yX6_init (.code yX6_init cX6_init 1 none) 1 0 0 [.ref u] h (jv_rV h) jv_no := by
  refine jv_ofV (lo := [(0, .ref u)]) hlt (by decide) (Nat.le_of_ble_eq_true rfl) rfl (fun E hEl hEd hEz Z G hr ht hnm => ?_)
  subst hEl; subst hEd; subst hEz
  refine jv_aload_n (q := 1) G 0 dX6_init_0 rfl rfl rfl ?_
  refine jv_objInit (q := 4) G dX6_init_1 oi_X6_3 (by rw [Z]; decide) (by rw [Z]; decide) (Nat.le_of_ble_eq_true rfl) rfl ?_
  refine jv_vret G hr dX6_init_4 (Nat.le_of_ble_eq_true rfl) (Nat.le_of_ble_eq_true rfl) ?_
  exact ⟨rfl, rfl⟩
set_option maxHeartbeats 4000000 in
set_option maxRecDepth 100000 in
theorem k_mInit {lA : Launch} (hlt : lA.stackTraces = false) {D : jv_D} {base : Nat} {h : jv_H} {m : Nat} : jv_Met lA D base yX3_init (.code yX3_init cX3_init 1 none) 1 0 0 [.ref m] h (jv_rV h) jv_no := by
  refine jv_ofV (lo := [(0, .ref m)]) hlt (by decide) (Nat.le_of_ble_eq_true rfl) rfl (fun E hEl hEd hEz Z G hr ht hnm => ?_)
  subst hEl; subst hEd; subst hEz
  refine jv_aload_n (q := 1) G 0 dX3_init_0 rfl rfl rfl ?_
  refine jv_objInit (q := 4) G dX3_init_1 oi_X3_3 (by rw [Z]; decide) (by rw [Z]; decide) (Nat.le_of_ble_eq_true rfl) rfl ?_
  refine jv_vret G hr dX3_init_4 (Nat.le_of_ble_eq_true rfl) (Nat.le_of_ble_eq_true rfl) ?_
  exact ⟨rfl, rfl⟩
set_option maxHeartbeats 4000000 in
set_option maxRecDepth 100000 in
theorem k_c0_loop {E : jv_E} {Q : State → Prop} {h1 : jv_H} {c arr : Nat} (x2 : jv_sh h1 c = some (.inl 0)) (x4 : jv_P h1 c 3 = some arr) (x5 : jv_sh h1 arr = some (.inr (.object "LinkArchive$Use", 20))) (hlt : (jv_l E).stackTraces = false) (G : jv_C E cX0_init RX0 2) (Z : jv_rm E = jv_room 2 21 140) (hk : ∀ hh u, row h1 hh arr (.inl 6) u 20 → jv_V E 2 hh 21 140 Q 40 [] []) : ∀ (n i : Nat) (hh : jv_H) (u : Nat → Nat), i + n = 20 → row h1 hh arr (.inl 6) u i → jv_V E 2 hh (1 + i) (20 + 6 * i) Q 15 [(1, .int (nI i)), (0, .ref c)] [] := by
  have nca : c ≠ arr := fun q => by rw [q, x5] at x2; cases x2
  intro n
  induction n with
  | zero =>
    intro i hh u hn hrow
    have smc := hrow.1 c nca (sh_ne x2)
    refine jv_iload_n (q := 16) G 0 dX0_init_15 rfl rfl rfl ?_
    refine jv_bipush (q := 18) (v := nI 20) G dX0_init_16 (by decide) rfl ?_
    refine jv_icmp_geN (q := 21) (tgt := 40) G dX0_init_18 (by decide) rfl (by omega) (by omega) (fun c1 => ?_) (fun c1 => ?_)
    · refine jv_lo [] (lo' := []) rfl ?_
      rw [show i = 20 by omega] at hrow ⊢
      exact hk _ _ hrow
    · omega
  | succ n ih =>
    intro i hh u hn hrow
    have smc := hrow.1 c nca (sh_ne x2)
    refine jv_iload_n (q := 16) G 0 dX0_init_15 rfl rfl rfl ?_
    refine jv_bipush (q := 18) (v := nI 20) G dX0_init_16 (by decide) rfl ?_
    refine jv_icmp_geN (q := 21) (tgt := 40) G dX0_init_18 (by decide) rfl (by omega) (by omega) (fun c1 => ?_) (fun c1 => ?_)
    · omega
    · refine jv_aload_n (q := 22) G 1 dX0_init_21 rfl rfl rfl ?_
      refine jv_getQ (q := 25) G dX0_init_22 fl_X0_11 rfl (smc.1.trans x2) ((smc.2.2.2 3).trans x4) rfl ?_
      refine jv_iload_n (q := 26) G 0 dX0_init_25 rfl rfl rfl ?_
      refine jv_newc (q := 29) G dX0_init_26 nw_X0_9 rfl (by rw [Z]; show 1 + i + 1 ≤ 21; omega) (by rw [Z]; show 20 + 6 * i + 6 ≤ 140; omega) rfl (fun a2 fa2 => ?_)
      refine jv_dup (q := 30) G dX0_init_29 rfl rfl ?_
      have ca := ne_no fa2 (sh_ne (hrow.2.1.trans x5))
      refine jv_callIN (q := 33) (As := []) (rest := [.ref a2, .int (nI i), .ref arr]) G Z ml_X0_17 rfl (jv_p1 150 (by decide +kernel) rfl) (k_uInit hlt) dX0_init_30 rfl (by decide) (by decide) (by show 1 + i + 1 + 0 ≤ 21; omega) (by show 20 + 6 * i + 6 + 0 ≤ 140; omega) (Nat.le_of_ble_eq_true rfl) rfl rfl (fun v4 h3 y5 => ?_)
      obtain ⟨rfl, rfl⟩ := y5
      show jv_V E 2 (jv_new hh a2 (.inl 6)) (1 + i + 1 + 0) (20 + 6 * i + 6 + 0) Q 33 [(1, .int (nI i)), (0, .ref c)] [.ref a2, .int (nI i), .ref arr]
      refine jv_aast (q := 34) G (ci := 6) rfl dX0_init_33 ((sm_new ca).1.trans (hrow.2.1.trans x5)) nw_sh rfl (by omega) (by decide) rfl ?_
      refine jv_iinc (q := 37) (lo' := [(1, .int (nI (i + 1))), (0, .ref c)]) (v := nI (i + 1)) G 0 dX0_init_34 rfl (nI_1 i) (by decide) rfl rfl ?_
      refine jv_goto (q := 15) G dX0_init_37 (by decide) ?_
      refine jv_cs (ce' := 1 + (i + 1)) (sl' := 20 + 6 * (i + 1)) (by omega) (by omega) ?_
      refine jv_lo [0, 1] (lo' := [(1, .int (nI (i + 1))), (0, .ref c)]) rfl ?_
      exact ih (i + 1) _ _ (by omega) (hrow.step fa2)
set_option maxHeartbeats 4000000 in
set_option maxRecDepth 100000 in
theorem k_cInit {lA : Launch} (hlt : lA.stackTraces = false) {D : jv_D} {base : Nat} {h : jv_H} {c : Nat} (hc : jv_sh h c = some (.inl 0)) (hz : ∀ j, jv_I h c j = 0) : jv_Met lA D base yX0_init (.code yX0_init cX0_init 2 none) 2 21 140 [.ref c] h (fun v h' => v = none ∧ exs (fun b => b = c) h h' ∧ ∃ b4 u, nC h h' c b4 u) jv_no := by
  refine jv_ofV (lo := [(0, .ref c)]) hlt (by decide) (Nat.le_of_ble_eq_true rfl) rfl (fun E hEl hEd hEz Z G hr ht hnm => ?_)
  subst hEl; subst hEd; subst hEz
  refine jv_aload_n (q := 1) G 0 dX0_init_0 rfl rfl rfl ?_
  refine jv_objInit (q := 4) G dX0_init_1 oi_X0_3 (by rw [Z]; decide) (by rw [Z]; decide) (Nat.le_of_ble_eq_true rfl) rfl ?_
  refine jv_aload_n (q := 5) G 0 dX0_init_4 rfl rfl rfl ?_
  refine jv_bipush (q := 7) (v := nI 20) G dX0_init_5 (by decide) rfl ?_
  refine jv_anew (q := 10) (C := "LinkArchive$Use") (N := 20) G dX0_init_7 (by decide) an_X0_9.1 an_X0_9.2 rfl (by decide) (by rw [Z]; show 0 + 1 ≤ 21; omega) (by rw [Z]; show 0 + 20 ≤ 140; omega) rfl (fun a1 fa1 => ?_)
  refine jv_putFQ (q := 13) G hnm dX0_init_10 fl_X0_11 (fun r h => by cases h; rfl) rfl ((sm_new (ne_no fa1 (sh_ne hc))).1.trans hc) rfl ?_
  have nca : c ≠ a1 := ne_no fa1 (sh_ne hc)
  have x1 : exs (fun b => b = c) h (jv_wP (jv_new h a1 (.inr (.object "LinkArchive$Use", 20))) c 3 (some a1)) := (exs_new fa1).tr (exs_wP (Or.inr rfl))
  have x2 : jv_sh (jv_wP (jv_new h a1 (.inr (.object "LinkArchive$Use", 20))) c 3 (some a1)) c = some (.inl 0) := by rw [jv_sh_wP, jv_sh_new, if_neg nca]; exact hc
  have x3 : ∀ j, jv_I (jv_wP (jv_new h a1 (.inr (.object "LinkArchive$Use", 20))) c 3 (some a1)) c j = 0 := fun j => by rw [jv_I_wP, jv_I_new, if_neg nca]; exact hz j
  have x4 : jv_P (jv_wP (jv_new h a1 (.inr (.object "LinkArchive$Use", 20))) c 3 (some a1)) c 3 = some a1 := jv_P_self _ _ _ _
  have x5 : jv_sh (jv_wP (jv_new h a1 (.inr (.object "LinkArchive$Use", 20))) c 3 (some a1)) a1 = some (.inr (.object "LinkArchive$Use", 20)) := by rw [jv_sh_wP, nw_sh]
  generalize jv_wP (jv_new h a1 (.inr (.object "LinkArchive$Use", 20))) c 3 (some a1) = h1 at x1 x2 x3 x4 x5 ⊢
  refine jv_iconst (q := 14) (v := nI 0) G dX0_init_13 (by decide) rfl ?_
  refine jv_istore_n (q := 15) (lo' := [(1, .int (nI 0)), (0, .ref c)]) G dX0_init_14 rfl (by decide) rfl rfl ?_
  refine jv_lo [0, 1] (lo' := [(1, .int (nI 0)), (0, .ref c)]) rfl ?_
  refine k_c0_loop x2 x4 x5 hlt G Z (fun hh u hrow => ?_) 20 0 h1 (fun _ => 0) (by omega) (row.start (sh_ne x5))
  refine jv_vret G hr dX0_init_40 (Nat.le_of_ble_eq_true rfl) (Nat.le_of_ble_eq_true rfl) ?_
  have smc := hrow.1 c nca (sh_ne x2)
  refine ⟨rfl, x1.tr2 hrow.1 fa1, a1, u, smc.1.trans x2, fun j => (smc.2.1 j).trans (x3 j), (smc.2.2.2 3).trans x4, hrow.2.1.trans x5, fa1, fun j hj => ⟨(hrow.2.2.2.1 j hj).1, (hrow.2.2.2.1 j hj).2.1, ?_⟩, hrow.2.2.2.2⟩
  refine x1.fresh (hrow.2.2.2.1 j hj).2.2 (fun q => ?_)
  have := (hrow.2.2.2.1 j hj).2.2
  rw [q, x2] at this; cases this
set_option maxHeartbeats 4000000 in
set_option maxRecDepth 100000 in
theorem k_t0_loop {E : jv_E} {Q : State → Prop} {h1 : jv_H} {c arr : Nat} (x2 : jv_sh h1 c = some (.inl 5)) (x4 : jv_P h1 c 8 = some arr) (x5 : jv_sh h1 arr = some (.inr (.object "LinkArchive$Member", 6))) (hlt : (jv_l E).stackTraces = false) (G : jv_C E cX5_init RX5 2) (Z : jv_rm E = jv_room 2 9 55) (hk : ∀ hh u, row h1 hh arr (.inl 3) u 6 → jv_V E 2 hh 9 55 Q 55 [] []) : ∀ (n i : Nat) (hh : jv_H) (u : Nat → Nat), i + n = 6 → row h1 hh arr (.inl 3) u i → jv_V E 2 hh (3 + i) (19 + 6 * i) Q 30 [(1, .int (nI i)), (0, .ref c)] [] := by
  have nca : c ≠ arr := fun q => by rw [q, x5] at x2; cases x2
  intro n
  induction n with
  | zero =>
    intro i hh u hn hrow
    have smc := hrow.1 c nca (sh_ne x2)
    refine jv_iload_n (q := 31) G 0 dX5_init_30 rfl rfl rfl ?_
    refine jv_bipush (q := 33) (v := nI 6) G dX5_init_31 (by decide) rfl ?_
    refine jv_icmp_geN (q := 36) (tgt := 55) G dX5_init_33 (by decide) rfl (by omega) (by omega) (fun c1 => ?_) (fun c1 => ?_)
    · refine jv_lo [] (lo' := []) rfl ?_
      rw [show i = 6 by omega] at hrow ⊢
      exact hk _ _ hrow
    · omega
  | succ n ih =>
    intro i hh u hn hrow
    have smc := hrow.1 c nca (sh_ne x2)
    refine jv_iload_n (q := 31) G 0 dX5_init_30 rfl rfl rfl ?_
    refine jv_bipush (q := 33) (v := nI 6) G dX5_init_31 (by decide) rfl ?_
    refine jv_icmp_geN (q := 36) (tgt := 55) G dX5_init_33 (by decide) rfl (by omega) (by omega) (fun c1 => ?_) (fun c1 => ?_)
    · omega
    · refine jv_aload_n (q := 37) G 1 dX5_init_36 rfl rfl rfl ?_
      refine jv_getQ (q := 40) G dX5_init_37 fl_X5_17 rfl (smc.1.trans x2) ((smc.2.2.2 8).trans x4) rfl ?_
      refine jv_iload_n (q := 41) G 0 dX5_init_40 rfl rfl rfl ?_
      refine jv_newc (q := 44) G dX5_init_41 nw_X5_15 rfl (by rw [Z]; show 3 + i + 1 ≤ 9; omega) (by rw [Z]; show 19 + 6 * i + 6 ≤ 55; omega) rfl (fun a2 fa2 => ?_)
      refine jv_dup (q := 45) G dX5_init_44 rfl rfl ?_
      have ca := ne_no fa2 (sh_ne (hrow.2.1.trans x5))
      refine jv_callIN (q := 48) (As := []) (rest := [.ref a2, .int (nI i), .ref arr]) G Z ml_X5_24 rfl (jv_p1 222 (by decide +kernel) rfl) (k_mInit hlt) dX5_init_45 rfl (by decide) (by decide) (by show 3 + i + 1 + 0 ≤ 9; omega) (by show 19 + 6 * i + 6 + 0 ≤ 55; omega) (Nat.le_of_ble_eq_true rfl) rfl rfl (fun v4 h3 y5 => ?_)
      obtain ⟨rfl, rfl⟩ := y5
      show jv_V E 2 (jv_new hh a2 (.inl 3)) (3 + i + 1 + 0) (19 + 6 * i + 6 + 0) Q 48 [(1, .int (nI i)), (0, .ref c)] [.ref a2, .int (nI i), .ref arr]
      refine jv_aast (q := 49) G (ci := 3) rfl dX5_init_48 ((sm_new ca).1.trans (hrow.2.1.trans x5)) nw_sh rfl (by omega) (by decide) rfl ?_
      refine jv_iinc (q := 52) (lo' := [(1, .int (nI (i + 1))), (0, .ref c)]) (v := nI (i + 1)) G 0 dX5_init_49 rfl (nI_1 i) (by decide) rfl rfl ?_
      refine jv_goto (q := 30) G dX5_init_52 (by decide) ?_
      refine jv_cs (ce' := 3 + (i + 1)) (sl' := 19 + 6 * (i + 1)) (by omega) (by omega) ?_
      refine jv_lo [0, 1] (lo' := [(1, .int (nI (i + 1))), (0, .ref c)]) rfl ?_
      exact ih (i + 1) _ _ (by omega) (hrow.step fa2)
set_option maxHeartbeats 4000000 in
set_option maxRecDepth 100000 in
theorem k_tInit {lA : Launch} (hlt : lA.stackTraces = false) {D : jv_D} {base : Nat} {h : jv_H} {c : Nat} (hc : jv_sh h c = some (.inl 5)) (hz : ∀ j, jv_I h c j = 0) (hzL : ∀ j, jv_L h c j = 0) : jv_Met lA D base yX5_init (.code yX5_init cX5_init 2 none) 2 9 55 [.ref c] h (fun v h' => v = none ∧ exs (fun b => b = c) h h' ∧ ∃ b8 b9 b10 u, nT h h' c b8 b9 b10 u) jv_no := by
  refine jv_ofV (lo := [(0, .ref c)]) hlt (by decide) (Nat.le_of_ble_eq_true rfl) rfl (fun E hEl hEd hEz Z G hr ht hnm => ?_)
  subst hEl; subst hEd; subst hEz
  refine jv_aload_n (q := 1) G 0 dX5_init_0 rfl rfl rfl ?_
  refine jv_objInit (q := 4) G dX5_init_1 oi_X5_3 (by rw [Z]; decide) (by rw [Z]; decide) (Nat.le_of_ble_eq_true rfl) rfl ?_
  refine jv_aload_n (q := 5) G 0 dX5_init_4 rfl rfl rfl ?_
  refine jv_iconst (q := 6) (v := nI 3) G dX5_init_5 (by decide) rfl ?_
  refine jv_newa (q := 8) (ty := .int) (N := 3) G dX5_init_6 rfl jv_ty_int ⟨rfl, by decide, by decide⟩ ac_int rfl (by decide) (by rw [Z]; decide) (by rw [Z]; decide) rfl (fun q1 fq1 => ?_)
  refine jv_putFQ (q := 11) G hnm dX5_init_8 fl_X5_9 (fun r h => by cases h; rfl) rfl ((sm_new (ne_no fq1 (sh_ne hc))).1.trans hc) rfl ?_
  have nc1 : c ≠ q1 := ne_no fq1 (sh_ne hc)
  have x1 : exs (fun b => b = c) h (jv_wP (jv_new h q1 (.inr (.int, 3))) c 6 (some q1)) := (exs_new fq1).tr (exs_wP (Or.inr rfl))
  have x2 : jv_sh (jv_wP (jv_new h q1 (.inr (.int, 3))) c 6 (some q1)) c = some (.inl 5) := by rw [jv_sh_wP, jv_sh_new, if_neg nc1]; exact hc
  have x3 : ∀ j, jv_I (jv_wP (jv_new h q1 (.inr (.int, 3))) c 6 (some q1)) c j = 0 := fun j => by rw [jv_I_wP, jv_I_new, if_neg nc1]; exact hz j
  have x3L : ∀ j, jv_L (jv_wP (jv_new h q1 (.inr (.int, 3))) c 6 (some q1)) c j = 0 := fun j => by rw [jv_L_wP, jv_L_new, if_neg nc1]; exact hzL j
  have x4 : jv_P (jv_wP (jv_new h q1 (.inr (.int, 3))) c 6 (some q1)) c 6 = some q1 := jv_P_self _ _ _ _
  have x5 : jv_sh (jv_wP (jv_new h q1 (.inr (.int, 3))) c 6 (some q1)) q1 = some (.inr (.int, 3)) := by rw [jv_sh_wP, nw_sh]
  generalize jv_wP (jv_new h q1 (.inr (.int, 3))) c 6 (some q1) = h1 at x1 x2 x3 x3L x4 x5 ⊢
  refine jv_aload_n (q := 12) G 0 dX5_init_11 rfl rfl rfl ?_
  refine jv_bipush (q := 14) (v := nI 6) G dX5_init_12 (by decide) rfl ?_
  refine jv_anew (q := 17) (C := "LinkArchive$Member") (N := 6) G dX5_init_14 (by decide) an_X5_15.1 an_X5_15.2 rfl (by decide) (by rw [Z]; show 0 + 1 + 1 ≤ 9; omega) (by rw [Z]; show 0 + 3 + 6 ≤ 55; omega) rfl (fun a2 fa2 => ?_)
  refine jv_putFQ (q := 20) G hnm dX5_init_17 fl_X5_17 (fun r h => by cases h; rfl) rfl ((sm_new (ne_no fa2 (sh_ne x2))).1.trans x2) rfl ?_
  have nc2 : c ≠ a2 := ne_no fa2 (sh_ne x2)
  have n89 : q1 ≠ a2 := ne_no fa2 (sh_ne x5)
  have f92 : jv_sh h a2 = none := x1.fresh fa2 nc2.symm
  have y1 : exs (fun b => b = c) h (jv_wP (jv_new h1 a2 (.inr (.object "LinkArchive$Member", 6))) c 8 (some a2)) := x1.tr ((exs_new fa2).tr (exs_wP (Or.inr rfl)))
  have y2 : jv_sh (jv_wP (jv_new h1 a2 (.inr (.object "LinkArchive$Member", 6))) c 8 (some a2)) c = some (.inl 5) := by rw [jv_sh_wP, jv_sh_new, if_neg nc2]; exact x2
  have y3 : ∀ j, jv_I (jv_wP (jv_new h1 a2 (.inr (.object "LinkArchive$Member", 6))) c 8 (some a2)) c j = 0 := fun j => by rw [jv_I_wP, jv_I_new, if_neg nc2]; exact x3 j
  have y3L : ∀ j, jv_L (jv_wP (jv_new h1 a2 (.inr (.object "LinkArchive$Member", 6))) c 8 (some a2)) c j = 0 := fun j => by rw [jv_L_wP, jv_L_new, if_neg nc2]; exact x3L j
  have y4 : jv_P (jv_wP (jv_new h1 a2 (.inr (.object "LinkArchive$Member", 6))) c 8 (some a2)) c 6 = some q1 := by rw [jv_P_wP, if_neg (fun q => absurd q.2 (by decide)), jv_P_new, if_neg nc2]; exact x4
  have y5 : jv_sh (jv_wP (jv_new h1 a2 (.inr (.object "LinkArchive$Member", 6))) c 8 (some a2)) q1 = some (.inr (.int, 3)) := by rw [jv_sh_wP, jv_sh_new, if_neg n89]; exact x5
  have y6 : jv_P (jv_wP (jv_new h1 a2 (.inr (.object "LinkArchive$Member", 6))) c 8 (some a2)) c 8 = some a2 := jv_P_self _ _ _ _
  have y7 : jv_sh (jv_wP (jv_new h1 a2 (.inr (.object "LinkArchive$Member", 6))) c 8 (some a2)) a2 = some (.inr (.object "LinkArchive$Member", 6)) := by rw [jv_sh_wP, nw_sh]
  generalize jv_wP (jv_new h1 a2 (.inr (.object "LinkArchive$Member", 6))) c 8 (some a2) = h2 at y1 y2 y3 y3L y4 y5 y6 y7 ⊢
  refine jv_aload_n (q := 21) G 0 dX5_init_20 rfl rfl rfl ?_
  refine jv_bipush (q := 23) (v := nI 10) G dX5_init_21 (by decide) rfl ?_
  refine jv_newa (q := 25) (ty := .int) (N := 10) G dX5_init_23 rfl jv_ty_int ⟨rfl, by decide, by decide⟩ ac_int rfl (by decide) (by rw [Z]; decide) (by rw [Z]; decide) rfl (fun q3 fq3 => ?_)
  refine jv_putFQ (q := 28) G hnm dX5_init_25 fl_X5_21 (fun r h => by cases h; rfl) rfl ((sm_new (ne_no fq3 (sh_ne y2))).1.trans y2) rfl ?_
  have nc3 : c ≠ q3 := ne_no fq3 (sh_ne y2)
  have n8a : q1 ≠ q3 := ne_no fq3 (sh_ne y5)
  have n9a : a2 ≠ q3 := ne_no fq3 (sh_ne y7)
  have f10 : jv_sh h q3 = none := y1.fresh fq3 nc3.symm
  have z1 : exs (fun b => b = c) h (jv_wP (jv_new h2 q3 (.inr (.int, 10))) c 12 (some q3)) := y1.tr ((exs_new fq3).tr (exs_wP (Or.inr rfl)))
  have z2 : jv_sh (jv_wP (jv_new h2 q3 (.inr (.int, 10))) c 12 (some q3)) c = some (.inl 5) := by rw [jv_sh_wP, jv_sh_new, if_neg nc3]; exact y2
  have z3 : ∀ j, jv_I (jv_wP (jv_new h2 q3 (.inr (.int, 10))) c 12 (some q3)) c j = 0 := fun j => by rw [jv_I_wP, jv_I_new, if_neg nc3]; exact y3 j
  have z3L : ∀ j, jv_L (jv_wP (jv_new h2 q3 (.inr (.int, 10))) c 12 (some q3)) c j = 0 := fun j => by rw [jv_L_wP, jv_L_new, if_neg nc3]; exact y3L j
  have z4 : jv_P (jv_wP (jv_new h2 q3 (.inr (.int, 10))) c 12 (some q3)) c 6 = some q1 := by rw [jv_P_wP, if_neg (fun q => absurd q.2 (by decide)), jv_P_new, if_neg nc3]; exact y4
  have z5 : jv_sh (jv_wP (jv_new h2 q3 (.inr (.int, 10))) c 12 (some q3)) q1 = some (.inr (.int, 3)) := by rw [jv_sh_wP, jv_sh_new, if_neg n8a]; exact y5
  have z6 : jv_P (jv_wP (jv_new h2 q3 (.inr (.int, 10))) c 12 (some q3)) c 8 = some a2 := by rw [jv_P_wP, if_neg (fun q => absurd q.2 (by decide)), jv_P_new, if_neg nc3]; exact y6
  have z7 : jv_sh (jv_wP (jv_new h2 q3 (.inr (.int, 10))) c 12 (some q3)) a2 = some (.inr (.object "LinkArchive$Member", 6)) := by rw [jv_sh_wP, jv_sh_new, if_neg n9a]; exact y7
  have z8 : jv_P (jv_wP (jv_new h2 q3 (.inr (.int, 10))) c 12 (some q3)) c 12 = some q3 := jv_P_self _ _ _ _
  have z9 : jv_sh (jv_wP (jv_new h2 q3 (.inr (.int, 10))) c 12 (some q3)) q3 = some (.inr (.int, 10)) := by rw [jv_sh_wP, nw_sh]
  generalize jv_wP (jv_new h2 q3 (.inr (.int, 10))) c 12 (some q3) = h3 at z1 z2 z3 z3L z4 z5 z6 z7 z8 z9 ⊢
  refine jv_iconst (q := 29) (v := nI 0) G dX5_init_28 (by decide) rfl ?_
  refine jv_istore_n (q := 30) (lo' := [(1, .int (nI 0)), (0, .ref c)]) G dX5_init_29 rfl (by decide) rfl rfl ?_
  refine jv_lo [0, 1] (lo' := [(1, .int (nI 0)), (0, .ref c)]) rfl ?_
  refine k_t0_loop z2 z6 z7 hlt G Z (fun hh u hrow => ?_) 6 0 h3 (fun _ => 0) (by omega) (row.start (sh_ne z7))
  refine jv_vret G hr dX5_init_55 (Nat.le_of_ble_eq_true rfl) (Nat.le_of_ble_eq_true rfl) ?_
  have n98 : q1 ≠ a2 := fun q => by rw [q, z7] at z5; cases z5
  have n9b : q3 ≠ a2 := fun q => by rw [q, z7] at z9; cases z9
  have nc9 : c ≠ a2 := fun q => by rw [q, z7] at z2; cases z2
  have s0 := hrow.1 c nc9 (sh_ne z2)
  have s8 := hrow.1 q1 n98 (sh_ne z5)
  have s10 := hrow.1 q3 n9b (sh_ne z9)
  refine ⟨rfl, z1.tr2 hrow.1 f92, q1, a2, q3, u, s0.1.trans z2, fun j => (s0.2.1 j).trans (z3 j), fun j => (s0.2.2.1 j).trans (z3L j), (s0.2.2.2 6).trans z4, s8.1.trans z5, (s0.2.2.2 8).trans z6, hrow.2.1.trans z7, (s0.2.2.2 12).trans z8, s10.1.trans z9, fun j hj => ⟨(hrow.2.2.2.1 j hj).1, (hrow.2.2.2.1 j hj).2.1, ?_⟩, hrow.2.2.2.2, fq1, f92, f10⟩
  refine z1.fresh (hrow.2.2.2.1 j hj).2.2 (fun q => ?_)
  have := (hrow.2.2.2.1 j hj).2.2
  rw [q, z2] at this; cases this
