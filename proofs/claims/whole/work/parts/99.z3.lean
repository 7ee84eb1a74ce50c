set_option maxHeartbeats 4000000 in
set_option maxRecDepth 100000 in
theorem k_i1_loop {E : jv_E} {Q : State → Prop} {h1 : jv_H} {x arr : Nat} (x2 : jv_sh h1 x = some (.inl 7)) (x4 : jv_P h1 x 0 = some arr) (x5 : jv_sh h1 arr = some (.inr (.object "LinkArchive$Edition", 8))) (hlt : (jv_l E).stackTraces = false) (G : jv_C E cX7_init RX7 2) (Z : jv_rm E = jv_room 4 1123 11065) (hk : ∀ hh (g : nG) (u b1 b2 : Nat → Nat) (t : Nat → Nat → Nat), rowE h1 hh arr g u b1 b2 t 8 → jv_V E 2 hh 859 9325 Q 80 [(0, .ref x)] []) : ∀ (n i : Nat) (hh : jv_H) (g : nG) (u b1 b2 : Nat → Nat) (t : Nat → Nat → Nat), i + n = 8 → rowE h1 hh arr g u b1 b2 t i → jv_V E 2 hh (35 + 103 * i) (3477 + 731 * i) Q 54 [(1, .int (nI i)), (0, .ref x)] [] := by
  have nca : x ≠ arr := fun q => by rw [q, x5] at x2; cases x2
  intro n
  induction n with
  | zero =>
    intro i hh g u b1 b2 t hn hrow
    have smc := hrow.1 x nca (sh_ne x2)
    refine jv_iload_n (q := 55) G 0 dX7_init_54 rfl rfl rfl ?_
    refine jv_bipush (q := 57) (v := nI 8) G dX7_init_55 (by decide) rfl ?_
    refine jv_icmp_geN (q := 60) (tgt := 80) G dX7_init_57 (by decide) rfl (by omega) (by omega) (fun c1 => ?_) (fun c1 => ?_)
    · refine jv_lo [1] (lo' := [(0, .ref x)]) rfl ?_
      rw [show i = 8 by omega] at hrow ⊢
      exact hk _ _ _ _ _ _ hrow
    · omega
  | succ n ih =>
    intro i hh g u b1 b2 t hn hrow
    have smc := hrow.1 x nca (sh_ne x2)
    refine jv_iload_n (q := 55) G 0 dX7_init_54 rfl rfl rfl ?_
    refine jv_bipush (q := 57) (v := nI 8) G dX7_init_55 (by decide) rfl ?_
    refine jv_icmp_geN (q := 60) (tgt := 80) G dX7_init_57 (by decide) rfl (by omega) (by omega) (fun c1 => ?_) (fun c1 => ?_)
    · omega
    · refine jv_aload_n (q := 61) G 1 dX7_init_60 rfl rfl rfl ?_
      refine jv_getQ (q := 64) G dX7_init_61 fl_X7_11 rfl (smc.1.trans x2) ((smc.2.2.2 0).trans x4) rfl ?_
      refine jv_iload_n (q := 65) G 0 dX7_init_64 rfl rfl rfl ?_
      refine jv_newc (q := 68) G dX7_init_65 nw_X7_9 rfl (by rw [Z]; show 35 + 103 * i + 1 ≤ 1123; omega) (by rw [Z]; show 3477 + 731 * i + 5 ≤ 11065; omega) rfl (fun a2 fa2 => ?_)
      refine jv_dup (q := 69) G dX7_init_68 rfl rfl ?_
      refine jv_iload_n (q := 70) G 0 dX7_init_69 rfl rfl rfl ?_
      have ca := ne_no fa2 (sh_ne (hrow.2.1.trans x5))
      refine jv_callI (q := 73) (As := [.int (nI i)]) (rest := [.ref a2, .int (nI i), .ref arr]) G Z ml_X7_39 (k_eInit (g0 := g) hlt nw_sh (fun _ => nw_I)) dX7_init_70 rfl (by decide) (by decide) (by show 35 + 103 * i + 1 + 102 ≤ 1123; omega) (by show 3477 + 731 * i + 5 + 726 ≤ 11065; omega) (Nat.le_of_ble_eq_true rfl) rfl rfl (fun v4 h3 y5 => ?_)
      obtain ⟨rfl, fx, g9, c1, c2, wv, ne⟩ := y5
      show jv_V E 2 h3 (35 + 103 * i + 1 + 102) (3477 + 731 * i + 5 + 726) Q 73 [(1, .int (nI i)), (0, .ref x)] [.ref a2, .int (nI i), .ref arr]
      have sar : jv_sh h3 arr = some (.inr (.object "LinkArchive$Edition", 8)) := (fx arr ca (by rw [(sm_new ca).1]; exact sh_ne (hrow.2.1.trans x5))).1.trans ((sm_new ca).1.trans (hrow.2.1.trans x5))
      refine jv_aast (q := 74) G (ci := 2) rfl dX7_init_73 sar ne.1 rfl (by omega) (by decide) rfl ?_
      refine jv_iinc (q := 77) (lo' := [(1, .int (nI (i + 1))), (0, .ref x)]) (v := nI (i + 1)) G 0 dX7_init_74 rfl (nI_1 i) (by decide) rfl rfl ?_
      refine jv_goto (q := 54) G dX7_init_77 (by decide) ?_
      refine jv_cs (ce' := 35 + 103 * (i + 1)) (sl' := 3477 + 731 * (i + 1)) (by omega) (by omega) ?_
      refine jv_lo [0, 1] (lo' := [(1, .int (nI (i + 1))), (0, .ref x)]) rfl ?_
      exact ih (i + 1) _ _ _ _ _ _ (by omega) (hrow.step fa2 fx ne)
set_option maxHeartbeats 4000000 in
set_option maxRecDepth 100000 in
theorem k_i2_loop {E : jv_E} {Q : State → Prop} {h1 : jv_H} {x arr : Nat} (x2 : jv_sh h1 x = some (.inl 7)) (x4 : jv_P h1 x 2 = some arr) (x5 : jv_sh h1 arr = some (.inr (.object "LinkArchive$Caller", 12))) (hlt : (jv_l E).stackTraces = false) (G : jv_C E cX7_init RX7 2) (Z : jv_rm E = jv_room 4 1123 11065) (hk : ∀ hh (u b4 : Nat → Nat) (v : Nat → Nat → Nat), rowC h1 hh arr u b4 v 12 → jv_V E 2 hh 1123 11065 Q 107 [(0, .ref x)] []) : ∀ (n i : Nat) (hh : jv_H) (u b4 : Nat → Nat) (v : Nat → Nat → Nat), i + n = 12 → rowC h1 hh arr u b4 v i → jv_V E 2 hh (859 + 22 * i) (9325 + 145 * i) Q 82 [(1, .int (nI i)), (0, .ref x)] [] := by
  have nca : x ≠ arr := fun q => by rw [q, x5] at x2; cases x2
  intro n
  induction n with
  | zero =>
    intro i hh u b4 v hn hrow
    have smc := hrow.1 x nca (sh_ne x2)
    refine jv_iload_n (q := 83) G 0 dX7_init_82 rfl rfl rfl ?_
    refine jv_bipush (q := 85) (v := nI 12) G dX7_init_83 (by decide) rfl ?_
    refine jv_icmp_geN (q := 88) (tgt := 107) G dX7_init_85 (by decide) rfl (by omega) (by omega) (fun c1 => ?_) (fun c1 => ?_)
    · refine jv_lo [1] (lo' := [(0, .ref x)]) rfl ?_
      rw [show i = 12 by omega] at hrow ⊢
      exact hk _ _ _ _ hrow
    · omega
  | succ n ih =>
    intro i hh u b4 v hn hrow
    have smc := hrow.1 x nca (sh_ne x2)
    refine jv_iload_n (q := 83) G 0 dX7_init_82 rfl rfl rfl ?_
    refine jv_bipush (q := 85) (v := nI 12) G dX7_init_83 (by decide) rfl ?_
    refine jv_icmp_geN (q := 88) (tgt := 107) G dX7_init_85 (by decide) rfl (by omega) (by omega) (fun c1 => ?_) (fun c1 => ?_)
    · omega
    · refine jv_aload_n (q := 89) G 1 dX7_init_88 rfl rfl rfl ?_
      refine jv_getQ (q := 92) G dX7_init_89 fl_X7_17 rfl (smc.1.trans x2) ((smc.2.2.2 2).trans x4) rfl ?_
      refine jv_iload_n (q := 93) G 0 dX7_init_92 rfl rfl rfl ?_
      refine jv_newc (q := 96) G dX7_init_93 nw_X7_15 rfl (by rw [Z]; show 859 + 22 * i + 1 ≤ 1123; omega) (by rw [Z]; show 9325 + 145 * i + 5 ≤ 11065; omega) rfl (fun a2 fa2 => ?_)
      refine jv_dup (q := 97) G dX7_init_96 rfl rfl ?_
      have ca := ne_no fa2 (sh_ne (hrow.2.1.trans x5))
      refine jv_callI (q := 100) (As := []) (rest := [.ref a2, .int (nI i), .ref arr]) G Z ml_X7_42 (k_cInit hlt nw_sh (fun _ => nw_I)) dX7_init_97 rfl (by decide) (by decide) (by show 859 + 22 * i + 1 + 21 ≤ 1123; omega) (by show 9325 + 145 * i + 5 + 140 ≤ 11065; omega) (Nat.le_of_ble_eq_true rfl) rfl rfl (fun v4 h3 y5 => ?_)
      obtain ⟨rfl, fx, c4, wv, ne⟩ := y5
      show jv_V E 2 h3 (859 + 22 * i + 1 + 21) (9325 + 145 * i + 5 + 140) Q 100 [(1, .int (nI i)), (0, .ref x)] [.ref a2, .int (nI i), .ref arr]
      have sar : jv_sh h3 arr = some (.inr (.object "LinkArchive$Caller", 12)) := (fx arr ca (by rw [(sm_new ca).1]; exact sh_ne (hrow.2.1.trans x5))).1.trans ((sm_new ca).1.trans (hrow.2.1.trans x5))
      refine jv_aast (q := 101) G (ci := 0) rfl dX7_init_100 sar ne.1 rfl (by omega) (by decide) rfl ?_
      refine jv_iinc (q := 104) (lo' := [(1, .int (nI (i + 1))), (0, .ref x)]) (v := nI (i + 1)) G 0 dX7_init_101 rfl (nI_1 i) (by decide) rfl rfl ?_
      refine jv_goto (q := 82) G dX7_init_104 (by decide) ?_
      refine jv_cs (ce' := 859 + 22 * (i + 1)) (sl' := 9325 + 145 * (i + 1)) (by omega) (by omega) ?_
      refine jv_lo [0, 1] (lo' := [(1, .int (nI (i + 1))), (0, .ref x)]) rfl ?_
      exact ih (i + 1) _ _ _ _ (by omega) (hrow.step fa2 fx ne)
set_option maxHeartbeats 4000000 in
set_option maxRecDepth 100000 in
theorem k_xInit {lA : Launch} (hlt : lA.stackTraces = false) {D : jv_D} {base : Nat} {h : jv_H} {x : Nat} (hx : jv_sh h x = some (.inl 7)) (hz : ∀ j, jv_I h x j = 0) : jv_Met lA D base yX7_init (.code yX7_init cX7_init 2 none) 4 1123 11065 [.ref x] h (fun y_ h' => y_ = none ∧ exs (fun b => b = x) h h' ∧ ∃ (z : Nat → Nat → Nat) (T : Nat → Nat) (N : Nat → Nat → Nat) (tO : Nat → Nat), z 6 0 = x ∧ (∀ b, jv_sh h' b = none → tO b = b) ∧ cl_R z T N tO h' ([], [])) jv_no := by
  refine jv_ofV (lo := [(0, .ref x)]) hlt (by decide) (Nat.le_of_ble_eq_true rfl) rfl (fun E hEl hEd hEz Z G hr ht hnm => ?_)
  subst hEl; subst hEd; subst hEz
  have r := xst.start hx hz
  refine jv_aload_n (q := 1) G 0 dX7_init_0 rfl rfl rfl ?_
  refine jv_objInit (q := 4) G dX7_init_1 oi_X7_3 (by rw [Z]; decide) (by rw [Z]; decide) (Nat.le_of_ble_eq_true rfl) rfl ?_
  refine jv_aload_n (q := 5) G 0 dX7_init_4 rfl rfl rfl ?_
  refine jv_bipush (q := 7) (v := nI 8) G dX7_init_5 (by decide) rfl ?_
  refine jv_anew (q := 10) (C := "LinkArchive$Edition") (N := 8) G dX7_init_7 (by decide) an_X7_9.1 an_X7_9.2 rfl (by decide) (by rw [Z]; show 0 + 1 ≤ 1123; omega) (by rw [Z]; show 0 + 8 ≤ 11065; omega) rfl (fun a1 fa1 => ?_)
  refine jv_putFQ (q := 13) G hnm dX7_init_10 fl_X7_11 (fun r h => by cases h; rfl) rfl ((sm_new (ne_no fa1 (sh_ne r.2.1))).1.trans r.2.1) rfl ?_
  obtain ⟨r, ex⟩ := xst.step (k := 0) r (by simp) fa1 exs.rf nw_sh
  generalize jv_wP (jv_new h a1 (.inr (.object "LinkArchive$Edition", 8))) x 0 (some a1) = h2 at r ex ⊢
  refine jv_aload_n (q := 14) G 0 dX7_init_13 rfl rfl rfl ?_
  refine jv_bipush (q := 16) (v := nI 12) G dX7_init_14 (by decide) rfl ?_
  refine jv_anew (q := 19) (C := "LinkArchive$Caller") (N := 12) G dX7_init_16 (by decide) an_X7_15.1 an_X7_15.2 rfl (by decide) (by rw [Z]; show 0 + 1 + 1 ≤ 1123; omega) (by rw [Z]; show 0 + 8 + 12 ≤ 11065; omega) rfl (fun a3 fa3 => ?_)
  refine jv_putFQ (q := 22) G hnm dX7_init_19 fl_X7_17 (fun r h => by cases h; rfl) rfl ((sm_new (ne_no fa3 (sh_ne r.2.1))).1.trans r.2.1) rfl ?_
  obtain ⟨r, ex⟩ := xst.step (k := 2) r (by simp) fa3 exs.rf nw_sh
  generalize jv_wP (jv_new h2 a3 (.inr (.object "LinkArchive$Caller", 12))) x 2 (some a3) = h4 at r ex ⊢
  refine jv_aload_n (q := 23) G 0 dX7_init_22 rfl rfl rfl ?_
  refine jv_newc (q := 26) G dX7_init_23 nw_X7_21 rfl (by rw [Z]; show 0 + 1 + 1 + 1 ≤ 1123; omega) (by rw [Z]; show 0 + 8 + 12 + 10 ≤ 11065; omega) rfl (fun a5 fa5 => ?_)
  refine jv_dup (q := 27) G dX7_init_26 rfl rfl ?_
  have xk := (sm_new (s := .inl 1) (ne_no fa5 (sh_ne r.2.1))).ne (sh_ne r.2.1)
  have nx3 := ne_no fa5 (sh_ne r.2.1)
  refine jv_callIN (q := 30) (As := []) (rest := [.ref a5, .ref x]) G Z ml_X7_23 rfl (jv_p1 96 (by decide +kernel) rfl) (k_kInit hlt nw_sh (fun _ => nw_I)) dX7_init_27 rfl (by decide) (by decide) (by show 0 + 1 + 1 + 1 + 7 ≤ 1123; omega) (by show 0 + 8 + 12 + 10 + 3230 ≤ 11065; omega) (Nat.le_of_ble_eq_true rfl) rfl rfl (fun v7 h6 y8 => ?_)
  obtain ⟨rfl, qk, nk⟩ := y8
  show jv_V E 2 h6 (0 + 1 + 1 + 1 + 7) (0 + 8 + 12 + 10 + 3230) (jv_Q E (fun y_ h' => y_ = none ∧ exs (fun b => b = x) h h' ∧ ∃ (z : Nat → Nat → Nat) (T : Nat → Nat) (N : Nat → Nat → Nat) (tO : Nat → Nat), z 6 0 = x ∧ (∀ b, jv_sh h' b = none → tO b = b) ∧ cl_R z T N tO h' ([], [])) jv_no 1123 11065) 30 [(0, .ref x)] [.ref a5, .ref x]
  refine jv_putFQ (q := 33) G hnm dX7_init_30 fl_X7_24 (fun r h => by cases h; rfl) rfl ((nk.2.2.2.2.1 x nx3 xk).1.trans ((sm_new nx3).1.trans r.2.1)) rfl ?_
  have fK := exs_wP (X := fun b => b = x) (h := h6) (a := x) (k := 4) (v := some a5) (Or.inr rfl)
  obtain ⟨r, ex⟩ := xst.step (k := 4) r (by simp) fa5 nk.2.2.2.2.1 nk.1
  generalize jv_wP h6 x 4 (some a5) = h9 at r ex fK ⊢
  refine jv_aload_n (q := 34) G 0 dX7_init_33 rfl rfl rfl ?_
  refine jv_newc (q := 37) G dX7_init_34 nw_X7_28 rfl (by rw [Z]; show 0 + 1 + 1 + 1 + 7 + 1 ≤ 1123; omega) (by rw [Z]; show 0 + 8 + 12 + 10 + 3230 + 2 ≤ 11065; omega) rfl (fun a10 fa10 => ?_)
  refine jv_dup (q := 38) G dX7_init_37 rfl rfl ?_
  have xp := (sm_new (s := .inl 4) (ne_no fa10 (sh_ne r.2.1))).ne (sh_ne r.2.1)
  have nx4 := ne_no fa10 (sh_ne r.2.1)
  refine jv_callIN (q := 41) (As := []) (rest := [.ref a10, .ref x]) G Z ml_X7_30 rfl (jv_p1 137 (by decide +kernel) rfl) (k_pInit hlt nw_sh) dX7_init_38 rfl (by decide) (by decide) (by show 0 + 1 + 1 + 1 + 7 + 1 + 23 ≤ 1123; omega) (by show 0 + 8 + 12 + 10 + 3230 + 2 + 151 ≤ 11065; omega) (Nat.le_of_ble_eq_true rfl) rfl rfl (fun v12 h11 y13 => ?_)
  obtain ⟨rfl, pc, pb, pt, pu, np⟩ := y13
  show jv_V E 2 h11 (0 + 1 + 1 + 1 + 7 + 1 + 23) (0 + 8 + 12 + 10 + 3230 + 2 + 151) (jv_Q E (fun y_ h' => y_ = none ∧ exs (fun b => b = x) h h' ∧ ∃ (z : Nat → Nat → Nat) (T : Nat → Nat) (N : Nat → Nat → Nat) (tO : Nat → Nat), z 6 0 = x ∧ (∀ b, jv_sh h' b = none → tO b = b) ∧ cl_R z T N tO h' ([], [])) jv_no 1123 11065) 41 [(0, .ref x)] [.ref a10, .ref x]
  refine jv_putFQ (q := 44) G hnm dX7_init_41 fl_X7_31 (fun r h => by cases h; rfl) rfl ((np.2.2.2.2.2.2.2.1 x nx4 xp).1.trans ((sm_new nx4).1.trans r.2.1)) rfl ?_
  have fP := exs_wP (X := fun b => b = x) (h := h11) (a := x) (k := 5) (v := some a10) (Or.inr rfl)
  obtain ⟨r, ex⟩ := xst.step (k := 5) r (by simp) fa10 np.2.2.2.2.2.2.2.1 np.1
  have fK := fK.tr ex
  generalize jv_wP h11 x 5 (some a10) = h14 at r ex fK fP ⊢
  refine jv_aload_n (q := 45) G 0 dX7_init_44 rfl rfl rfl ?_
  refine jv_bipush (q := 47) (v := nI 64) G dX7_init_45 (by decide) rfl ?_
  refine jv_newa (q := 49) (ty := .int) (N := 64) G dX7_init_47 rfl jv_ty_int ⟨rfl, by decide, by decide⟩ ac_int rfl (by decide) (by rw [Z]; decide) (by rw [Z]; decide) rfl (fun q15 fq15 => ?_)
  refine jv_putFQ (q := 52) G hnm dX7_init_49 fl_X7_35 (fun r h => by cases h; rfl) rfl ((sm_new (ne_no fq15 (sh_ne r.2.1))).1.trans r.2.1) rfl ?_
  have z5 : ∀ j, jv_I (jv_wP (jv_new h14 q15 (.inr (.int, 64))) x 6 (some q15)) q15 j = 0 := fun j => (jv_I_wP ..).trans nw_I
  obtain ⟨r, ex⟩ := xst.step (k := 6) r (by simp) fq15 exs.rf nw_sh
  have fK := fK.tr ex
  have fP := fP.tr ex
  generalize jv_wP (jv_new h14 q15 (.inr (.int, 64))) x 6 (some q15) = h16 at r ex fK fP z5 ⊢
  refine jv_iconst (q := 53) (v := nI 0) G dX7_init_52 (by decide) rfl ?_
  refine jv_istore_n (q := 54) (lo' := [(1, .int (nI 0)), (0, .ref x)]) G dX7_init_53 rfl (by decide) rfl rfl ?_
  refine jv_lo [0, 1] (lo' := [(1, .int (nI 0)), (0, .ref x)]) rfl ?_
  obtain ⟨pe, se, -⟩ := r.2.2.2 (0, a1, (.inr (.object "LinkArchive$Edition", 8))) (by simp)
  obtain ⟨pq, sq, -⟩ := r.2.2.2 (2, a3, (.inr (.object "LinkArchive$Caller", 12))) (by simp)
  dsimp only at pe se pq sq
  refine k_i1_loop r.2.1 pe se hlt G Z (fun hB g u b1 b2 t rE => ?_) 8 0 h16 (fun _ => 0, fun _ => 0, fun _ => 0, fun _ _ => 0) (fun _ => 0) (fun _ => 0) (fun _ => 0) (fun _ _ => 0) (by omega) (rowE.start (sh_ne se))
  refine jv_iconst (q := 81) (v := nI 0) G dX7_init_80 (by decide) rfl ?_
  refine jv_istore_n (q := 82) (lo' := [(1, .int (nI 0)), (0, .ref x)]) G dX7_init_81 rfl (by decide) rfl rfl ?_
  refine jv_lo [0, 1] (lo' := [(1, .int (nI 0)), (0, .ref x)]) rfl ?_
  have n12 : a1 ≠ a3 := sh_no se sq (by decide)
  have nx1 : x ≠ a1 := sh_no r.2.1 se (by decide)
  have sxB := rE.1 x nx1 (sh_ne r.2.1)
  have s2B := rE.1 a3 (Ne.symm n12) (sh_ne sq)
  refine k_i2_loop (sxB.1.trans r.2.1) ((sxB.2.2.2 2).trans pq) (s2B.1.trans sq) hlt G Z (fun hC uc b4 v rC => ?_) 12 0 hB (fun _ => 0) (fun _ => 0) (fun _ _ => 0) (by omega) (rowC.start (sh_ne (s2B.1.trans sq)))
  refine jv_vret G hr dX7_init_107 (Nat.le_of_ble_eq_true rfl) (Nat.le_of_ble_eq_true rfl) ?_
  exact ⟨rfl, init_mk r z5 nk xk fK np xp fP rE rC⟩
