/-! THE COMPARISON's object -/
def ck_ty (k : Nat) : FieldType := if k = 7 then .boolean else if k = 9 then .long else .int
def ck_n (k : Nat) : Nat := if k = 8 then 2048 else if k = 9 then 32 else 230
def cl_k (z : Nat → Nat → Nat) (h : jv_H) : Prop := jv_sh h (z 6 3) = some (.inl 1) ∧ (∀ k, 3 ≤ k → k ≤ 9 → jv_P h (z 6 3) k = some (z 7 k) ∧ jv_sh h (z 7 k) = some (.inr (ck_ty k, ck_n k))) ∧ ∀ i j, 3 ≤ i → i ≤ 9 → 3 ≤ j → j ≤ 9 → z 7 i = z 7 j → i = j
theorem ck_p {z : Nat → Nat → Nat} {h : jv_H} (r : cl_k z h) (k : Nat) (h1 : 3 ≤ k) (h2 : k ≤ 9) : jv_P h (z 6 3) k = some (z 7 k) := (r.2.1 k h1 h2).1
theorem ck_s {z : Nat → Nat → Nat} {h : jv_H} (r : cl_k z h) (k : Nat) (h1 : 3 ≤ k) (h2 : k ≤ 9) : jv_sh h (z 7 k) = some (.inr (ck_ty k, ck_n k)) := (r.2.1 k h1 h2).2
theorem ck_s3 {z : Nat → Nat → Nat} {h : jv_H} (r : cl_k z h) : jv_sh h (z 7 3) = some (.inr (.int, 230)) := ck_s r 3 (by decide) (by decide)
theorem ck_s4 {z : Nat → Nat → Nat} {h : jv_H} (r : cl_k z h) : jv_sh h (z 7 4) = some (.inr (.int, 230)) := ck_s r 4 (by decide) (by decide)
theorem ck_s5 {z : Nat → Nat → Nat} {h : jv_H} (r : cl_k z h) : jv_sh h (z 7 5) = some (.inr (.int, 230)) := ck_s r 5 (by decide) (by decide)
theorem ck_s6 {z : Nat → Nat → Nat} {h : jv_H} (r : cl_k z h) : jv_sh h (z 7 6) = some (.inr (.int, 230)) := ck_s r 6 (by decide) (by decide)
theorem ck_s7 {z : Nat → Nat → Nat} {h : jv_H} (r : cl_k z h) : jv_sh h (z 7 7) = some (.inr (.boolean, 230)) := ck_s r 7 (by decide) (by decide)
theorem ck_s8 {z : Nat → Nat → Nat} {h : jv_H} (r : cl_k z h) : jv_sh h (z 7 8) = some (.inr (.int, 2048)) := ck_s r 8 (by decide) (by decide)
theorem ck_s9 {z : Nat → Nat → Nat} {h : jv_H} (r : cl_k z h) : jv_sh h (z 7 9) = some (.inr (.long, 32)) := ck_s r 9 (by decide) (by decide)
def ck_m (z : Nat → Nat → Nat) (h : jv_H) (s : mS) : Prop := (∀ K, K < 2048 → jv_I h (z 7 8) K = jv_oN (s.2 K)) ∧ ∀ r, r < 32 → ∃ n, jv_L h (z 7 9) r = lN n ∧ ∀ K, K < 64 → n.testBit K = s.1 (64 * r + K)
theorem lk_like {m o : mM} (h1 : mm_w o = mm_w m) (h2 : 4 * mm_n o + mm_s o = 4 * mm_n m + mm_s m) : m_lk o m = m_like m o := by
  unfold m_lk m_like m_sb
  rw [decide_eq_true h1, decide_eq_true h2]
  have e1 : decide (mm_t o = mm_t m) = decide (mm_t m = mm_t o) := by rw [decide_eq_decide]; exact eq_comm
  have e2 : decide (mm_b o = mm_b m) = decide (mm_b m = mm_b o) := by rw [decide_eq_decide]; exact eq_comm
  have e3 : decide (mm_c o = mm_c m) = decide (mm_c m = mm_c o) := by rw [decide_eq_decide]; exact eq_comm
  rw [e1, e2, e3]
  cases decide (mm_t m = mm_t o) <;> cases decide (mm_b m = mm_b o) <;> rfl
/-- is the type named u, of the second edition, a goal -/
def m_g2 (T : Nat → Bool) (KK u : Nat) (m : mM) (x y : Option mT) : Bool := match m_km y KK with
  | none => false
  | some o => !T (128 * u + KK) && m_like m o && (m_km x KK).isNone
theorem kk_wk (m : mM) : kk m = wk (mm_w m) (4 * mm_n m + mm_s m) := by unfold kk wk; omega
theorem km_has {t : mT} (ho : mt_ok t) (hu : m_uk t) {m : mM} (hm : mm_ok m) : m_has t (mm_w m) (some (4 * mm_n m + mm_s m)) = (m_km (some t) (kk m)).isSome := by
  have h1 := hm.1
  have h2 := hm.2.1
  rw [has_kj ho hu (by omega), kk_wk]
  cases hj : m_kj t (wk (mm_w m) (4 * mm_n m + mm_s m)) with
  | none => rw [km_n hj]; rfl
  | some j =>
    obtain ⟨o, h3, -⟩ := kj_some ho (by rw [← kk_wk]; exact kk_lt hm) hj
    rw [km_s hj h3]; rfl
theorem km_oc_n {t : mT} (ho : mt_ok t) {w : Bool} {K : Nat} (hK : K < 64) (h : m_oc t w (some K) = none) : m_km (some t) (wk w K) = none := km_n (by rw [← oc_kj ho hK]; exact h)
theorem km_oc_s {t : mT} (ho : mt_ok t) {w : Bool} {K j : Nat} {o : mM} (hK : K < 64) (h : m_oc t w (some K) = some j) (hm : (mt_m t)[j]? = some o) : m_km (some t) (wk w K) = some o := km_s (by rw [← oc_kj ho hK]; exact h) hm
set_option maxHeartbeats 4000000 in
set_option maxRecDepth 100000 in
theorem k_isGoal00 {lA : Launch} (hlt : lA.stackTraces = false) {D : jv_D} {base : Nat} {z : Nat → Nat → Nat} {T : Nat → Nat} {N : Nat → Nat → Nat} {h : jv_H} {a b : Nat} {A B : List mT} (hA : cv_E z T N h a A) (hB : cv_E z T N h b B) (lk : cl_k z h) {s : mS} (ck : ck_m z h s) {c u : Nat} {m : mM} (hs : jv_sh h c = some (.inl 3)) (hm : cv_M h c m) (om : mm_ok m) (hu16 : u < 16) : jv_Met lA D base yX1_isGoal (.code yX1_isGoal cX1_isGoal 5 (some .boolean)) 3 0 0 [.ref (z 6 3), va_rf none, va_rf none, .ref c] h (jv_rI (jv_bI (m_g2 s.1 (kk m) u m none none)) h) jv_no := by
  refine jv_ofV (lo := [(0, .ref (z 6 3)), (1, va_rf none), (2, va_rf none), (3, .ref c)]) hlt (by decide) (Nat.le_of_ble_eq_true rfl) rfl (fun E hEl hEd hEz Z G hr ht hnm => ?_)
  subst hEl; subst hEd; subst hEz
  have q1 := om.1; have q2 := om.2.1
  refine jv_aload_nR (q := 1) G 2 dX1_isGoal_0 rfl rfl rfl ?_
  refine jv_ifnull (q := 4) (tgt := 23) (x := none) G dX1_isGoal_1 (by decide) rfl (fun c1 => ?_) (fun a2 c1 => ?_)
  · refine jv_iconst (q := 24) (v := nI 0) G dX1_isGoal_23 (by decide) rfl ?_
    refine jv_topI (y := jv_bI false) rfl ?_
    refine jv_zret G hr dX1_isGoal_24 (Nat.le_of_ble_eq_true rfl) (Nat.le_of_ble_eq_true rfl) ?_
    refine ⟨?_, rfl⟩
    unfold m_g2
    rfl
  · cases c1
set_option maxHeartbeats 4000000 in
set_option maxRecDepth 100000 in
theorem k_isGoal01 {lA : Launch} (hlt : lA.stackTraces = false) {D : jv_D} {base : Nat} {z : Nat → Nat → Nat} {T : Nat → Nat} {N : Nat → Nat → Nat} {h : jv_H} {a b : Nat} {A B : List mT} (hA : cv_E z T N h a A) (hB : cv_E z T N h b B) (lk : cl_k z h) {s : mS} (ck : ck_m z h s) {c u : Nat} {m : mM} (hs : jv_sh h c = some (.inl 3)) (hm : cv_M h c m) (om : mm_ok m) (hu16 : u < 16) {k2 : Nat} {t2 : mT} (ht2 : B[k2]? = some t2) (hn2 : mt_n t2 = u) : jv_Met lA D base yX1_isGoal (.code yX1_isGoal cX1_isGoal 5 (some .boolean)) 3 0 0 [.ref (z 6 3), va_rf none, .ref (T (10 * b + k2)), .ref c] h (jv_rI (jv_bI (m_g2 s.1 (kk m) u m none (some t2))) h) jv_no := by
  refine jv_ofV (lo := [(0, .ref (z 6 3)), (1, va_rf none), (2, .ref (T (10 * b + k2))), (3, .ref c)]) hlt (by decide) (Nat.le_of_ble_eq_true rfl) rfl (fun E hEl hEd hEz Z G hr ht hnm => ?_)
  subst hEl; subst hEd; subst hEz
  have q1 := om.1; have q2 := om.2.1
  have lt2 := jv_ltGet ht2
  have k10t2 : k2 < 10 := by have := hB.2.2.2.1; omega
  have Ot2 := (hB.2.2.2.2.1 k2 t2 ht2).2
  have Vt2 := (hB.2.2.2.2.1 k2 t2 ht2).1
  have Yt2 := hB.2.1 k2 k10t2
  have bt2n := Ot2.1; have bt2k := Ot2.2.1
  have hnu : mt_n t2 = u := hn2
  refine jv_aload_n (q := 1) G 2 dX1_isGoal_0 rfl rfl rfl ?_
  refine jv_ifnull (q := 4) (tgt := 23) (x := (some (T (10 * b + k2)))) G dX1_isGoal_1 (by decide) rfl (fun c1 => ?_) (fun a2 c1 => ?_)
  · cases c1
  · refine jv_aload_nR (q := 5) G 1 dX1_isGoal_4 rfl rfl rfl ?_
    refine jv_ifnull (q := 8) (tgt := 25) (x := none) G dX1_isGoal_5 (by decide) rfl (fun c3 => ?_) (fun a4 c3 => ?_)
    · refine jv_aload_n (q := 26) G 2 dX1_isGoal_25 rfl rfl rfl ?_
      refine jv_aload_n (q := 27) G 3 dX1_isGoal_26 rfl rfl rfl ?_
      refine jv_getZ (q := 30) G dX1_isGoal_27 fl_X1_105 rfl hs hm.1 rfl ?_
      refine jv_aload_n (q := 31) G 3 dX1_isGoal_30 rfl rfl rfl ?_
      refine jv_getI (q := 34) G dX1_isGoal_31 fl_X1_111 rfl hs hm.2.2.2.1 rfl ?_
      refine jv_callV_R (q := 37) (h1 := h) (As := [.int (jv_bI (mm_w m)), .int (nI (4 * mm_n m + mm_s m))]) (rest := []) (ce' := 0) (sl' := 0) (r := ((m_oc t2 (mm_w m) (some (4 * mm_n m + mm_s m))).map (N (T (10 * b + k2))))) G Z ml_X1_89 (k_own (w := mm_w m) (ko := some (4 * mm_n m + mm_s m)) hlt Yt2 Vt2 Ot2 (fun K q => by cases q; omega)) (hB.2.1 k2 k10t2).1 dX1_isGoal_34 rfl (by decide) (by decide) (by decide) (by decide) (Nat.le_of_ble_eq_true rfl) rfl rfl rfl rfl ?_
      rcases Option.eq_none_or_eq_some (m_oc t2 (mm_w m) (some (4 * mm_n m + mm_s m))) with hj7 | ⟨j5, hj7⟩
      · refine jv_topR (y := none) (by rw [hj7]; rfl) ?_
        refine jv_astoreR (q := 39) (lo' := [(4, va_rf none), (0, .ref (z 6 3)), (1, va_rf none), (2, .ref (T (10 * b + k2))), (3, .ref c)]) (x := none) G dX1_isGoal_37 (by decide) rfl rfl ?_
        refine jv_aloadR (q := 41) G 0 dX1_isGoal_39 rfl rfl ?_
        refine jv_ifnull (q := 44) (tgt := 83) (x := none) G dX1_isGoal_41 (by decide) rfl (fun c8 => ?_) (fun a9 c8 => ?_)
        · refine jv_iconst (q := 84) (v := nI 0) G dX1_isGoal_83 (by decide) rfl ?_
          refine jv_topI (y := jv_bI false) rfl ?_
          refine jv_zret G hr dX1_isGoal_84 (Nat.le_of_ble_eq_true rfl) (Nat.le_of_ble_eq_true rfl) ?_
          refine ⟨?_, rfl⟩
          unfold m_g2
          rw [kk_wk, km_oc_n Ot2 (by omega) hj7]
        · cases c8
      · refine jv_topR (y := (some (N (T (10 * b + k2)) j5))) (by rw [hj7]; rfl) ?_
        obtain ⟨m6, hm6, wm6, km6⟩ := oc_some hj7
        have lm6 := jv_ltGet hm6
        have Om6 := Ot2.2.2.2.2.2.2 m6 (List.mem_of_getElem? hm6)
        have Vm6 := ct_m Vt2 hm6
        have j6m6 : j5 < 6 := by have := Ot2.2.2.2.2.2.1; omega
        have bm6a := Om6.2.2.1
        refine jv_astore (q := 39) (lo' := [(4, .ref (N (T (10 * b + k2)) j5)), (0, .ref (z 6 3)), (1, va_rf none), (2, .ref (T (10 * b + k2))), (3, .ref c)]) G dX1_isGoal_37 (by decide) rfl rfl ?_
        refine jv_aload (q := 41) G 0 dX1_isGoal_39 rfl rfl ?_
        refine jv_ifnull (q := 44) (tgt := 83) (x := (some (N (T (10 * b + k2)) j5))) G dX1_isGoal_41 (by decide) rfl (fun c10 => ?_) (fun a11 c10 => ?_)
        · cases c10
        · refine jv_aload (q := 46) G 0 dX1_isGoal_44 rfl rfl ?_
          refine jv_aload_n (q := 47) G 4 dX1_isGoal_46 rfl rfl rfl ?_
          refine jv_callV_I (q := 50) (h1 := h) (As := [.ref c]) (rest := []) (ce' := 0) (sl' := 0) (r := jv_bI (m_lk m6 m)) G Z ml_X1_126 (k_isLike hlt (Yt2.2.2.2.2.2.2.2 j5 j6m6).2 Vm6 hs hm Om6 om) (Yt2.2.2.2.2.2.2.2 j5 j6m6).2 dX1_isGoal_47 rfl (by decide) (by decide) (by decide) (by decide) (Nat.le_of_ble_eq_true rfl) rfl rfl rfl rfl ?_
          refine jv_if_eqB (q := 53) (tgt := 83) G dX1_isGoal_50 (by decide) rfl (fun c12 => ?_) (fun c12 => ?_)
          · rw [lk_like wm6 (Option.some.inj km6)] at c12
            refine jv_iconst (q := 84) (v := nI 0) G dX1_isGoal_83 (by decide) rfl ?_
            refine jv_topI (y := jv_bI false) rfl ?_
            refine jv_zret G hr dX1_isGoal_84 (Nat.le_of_ble_eq_true rfl) (Nat.le_of_ble_eq_true rfl) ?_
            refine ⟨?_, rfl⟩
            unfold m_g2
            rw [kk_wk, km_oc_s Ot2 (by omega) hj7 hm6]; dsimp only; rw [← kk_wk]; rw [c12]
            first | done | rfl | simp [m_km]
          · rw [lk_like wm6 (Option.some.inj km6)] at c12
            refine jv_aload_n (q := 54) G 1 dX1_isGoal_53 rfl rfl rfl ?_
            refine jv_getQ (q := 57) G dX1_isGoal_54 fl_X1_38 rfl lk.1 (ck_p lk 9 (by decide) (by decide)) rfl ?_
            refine jv_aload_n (q := 58) G 3 dX1_isGoal_57 rfl rfl rfl ?_
            refine jv_getI (q := 61) G dX1_isGoal_58 fl_X1_75 rfl (hB.2.1 k2 k10t2).1 (ct_0 (hB.2.2.2.2.1 k2 t2 ht2).1) rfl ?_
            refine jv_aload_n (q := 62) G 4 dX1_isGoal_61 rfl rfl rfl ?_
            refine jv_getZ (q := 65) G dX1_isGoal_62 fl_X1_105 rfl hs hm.1 rfl ?_
            refine jv_callS_I (q := 68) (h1 := h) (As := [.int (nI (mt_n t2)), .int (jv_bI (mm_w m))]) (rest := [.ref (z 7 9)]) (ce' := 0) (sl' := 0) (r := nI (2 * mt_n t2 + (if mm_w m then 1 else 0))) G Z ml_X1_71 (k_rowOf hlt) dX1_isGoal_65 rfl (by decide) (by decide) (by decide) (by decide) (Nat.le_of_ble_eq_true rfl) rfl rfl rfl rfl ?_
            obtain ⟨tn, htn, htb⟩ := ck.2 (2 * mt_n t2 + (if mm_w m then 1 else 0)) (by split <;> omega)
            refine jv_lald (q := 69) G dX1_isGoal_68 (ck_s9 lk) rfl (by first | omega | (split <;> omega)) (by decide) htn rfl ?_
            refine jv_aload_n (q := 70) G 4 dX1_isGoal_69 rfl rfl rfl ?_
            refine jv_getI (q := 73) G dX1_isGoal_70 fl_X1_111 rfl hs hm.2.2.2.1 rfl ?_
            refine jv_callSN_I (q := 76) (h1 := h) (As := [.long (lN tn), .int (nI (4 * mm_n m + mm_s m))]) (rest := []) (ce' := 0) (sl' := 0) (r := jv_bI (tn.testBit (4 * mm_n m + mm_s m))) G Z ml_X1_85 (jv_p1 746 (by decide +kernel) rfl) (k_hasBit hlt (by omega)) dX1_isGoal_73 rfl (by decide) (by decide) (by decide) (by decide) (Nat.le_of_ble_eq_true rfl) rfl rfl rfl rfl ?_
            refine jv_if_neB (q := 79) (tgt := 83) G dX1_isGoal_76 (by decide) rfl (fun c13 => ?_) (fun c13 => ?_)
            · rw [htb _ (by omega), show 64 * (2 * mt_n t2 + (if mm_w m then 1 else 0)) + (4 * mm_n m + mm_s m) = 128 * u + kk m from by unfold kk; split <;> omega] at c13
              refine jv_iconst (q := 84) (v := nI 0) G dX1_isGoal_83 (by decide) rfl ?_
              refine jv_topI (y := jv_bI false) rfl ?_
              refine jv_zret G hr dX1_isGoal_84 (Nat.le_of_ble_eq_true rfl) (Nat.le_of_ble_eq_true rfl) ?_
              refine ⟨?_, rfl⟩
              unfold m_g2
              rw [kk_wk, km_oc_s Ot2 (by omega) hj7 hm6]; dsimp only; rw [← kk_wk]; rw [c13]; rw [c12]
              first | done | rfl | simp [m_km]
            · rw [htb _ (by omega), show 64 * (2 * mt_n t2 + (if mm_w m then 1 else 0)) + (4 * mm_n m + mm_s m) = 128 * u + kk m from by unfold kk; split <;> omega] at c13
              refine jv_iconst (q := 80) (v := nI 1) G dX1_isGoal_79 (by decide) rfl ?_
              refine jv_goto (q := 84) G dX1_isGoal_80 (by decide) ?_
              refine jv_topI (y := jv_bI true) rfl ?_
              refine jv_zret G hr dX1_isGoal_84 (Nat.le_of_ble_eq_true rfl) (Nat.le_of_ble_eq_true rfl) ?_
              refine ⟨?_, rfl⟩
              unfold m_g2
              rw [kk_wk, km_oc_s Ot2 (by omega) hj7 hm6]; dsimp only; rw [← kk_wk]; rw [c13]; rw [c12]
              first | done | rfl | simp [m_km]
    · cases c3
set_option maxHeartbeats 4000000 in
set_option maxRecDepth 100000 in
theorem k_isGoal10 {lA : Launch} (hlt : lA.stackTraces = false) {D : jv_D} {base : Nat} {z : Nat → Nat → Nat} {T : Nat → Nat} {N : Nat → Nat → Nat} {h : jv_H} {a b : Nat} {A B : List mT} (hA : cv_E z T N h a A) (hB : cv_E z T N h b B) (lk : cl_k z h) {s : mS} (ck : ck_m z h s) {c u : Nat} {m : mM} (hs : jv_sh h c = some (.inl 3)) (hm : cv_M h c m) (om : mm_ok m) (hu16 : u < 16) {k1 : Nat} {t1 : mT} (ht1 : A[k1]? = some t1) (hu1 : m_uk t1) : jv_Met lA D base yX1_isGoal (.code yX1_isGoal cX1_isGoal 5 (some .boolean)) 3 0 0 [.ref (z 6 3), .ref (T (10 * a + k1)), va_rf none, .ref c] h (jv_rI (jv_bI (m_g2 s.1 (kk m) u m (some t1) none)) h) jv_no := by
  refine jv_ofV (lo := [(0, .ref (z 6 3)), (1, .ref (T (10 * a + k1))), (2, va_rf none), (3, .ref c)]) hlt (by decide) (Nat.le_of_ble_eq_true rfl) rfl (fun E hEl hEd hEz Z G hr ht hnm => ?_)
  subst hEl; subst hEd; subst hEz
  have q1 := om.1; have q2 := om.2.1
  have lt1 := jv_ltGet ht1
  have k10t1 : k1 < 10 := by have := hA.2.2.2.1; omega
  have Ot1 := (hA.2.2.2.2.1 k1 t1 ht1).2
  have Vt1 := (hA.2.2.2.2.1 k1 t1 ht1).1
  have Yt1 := hA.2.1 k1 k10t1
  have bt1n := Ot1.1; have bt1k := Ot1.2.1
  refine jv_aload_nR (q := 1) G 2 dX1_isGoal_0 rfl rfl rfl ?_
  refine jv_ifnull (q := 4) (tgt := 23) (x := none) G dX1_isGoal_1 (by decide) rfl (fun c1 => ?_) (fun a2 c1 => ?_)
  · refine jv_iconst (q := 24) (v := nI 0) G dX1_isGoal_23 (by decide) rfl ?_
    refine jv_topI (y := jv_bI false) rfl ?_
    refine jv_zret G hr dX1_isGoal_24 (Nat.le_of_ble_eq_true rfl) (Nat.le_of_ble_eq_true rfl) ?_
    refine ⟨?_, rfl⟩
    unfold m_g2
    rfl
  · cases c1
set_option maxHeartbeats 4000000 in
set_option maxRecDepth 100000 in
theorem k_isGoal11 {lA : Launch} (hlt : lA.stackTraces = false) {D : jv_D} {base : Nat} {z : Nat → Nat → Nat} {T : Nat → Nat} {N : Nat → Nat → Nat} {h : jv_H} {a b : Nat} {A B : List mT} (hA : cv_E z T N h a A) (hB : cv_E z T N h b B) (lk : cl_k z h) {s : mS} (ck : ck_m z h s) {c u : Nat} {m : mM} (hs : jv_sh h c = some (.inl 3)) (hm : cv_M h c m) (om : mm_ok m) (hu16 : u < 16) {k1 : Nat} {t1 : mT} (ht1 : A[k1]? = some t1) (hu1 : m_uk t1) {k2 : Nat} {t2 : mT} (ht2 : B[k2]? = some t2) (hn2 : mt_n t2 = u) : jv_Met lA D base yX1_isGoal (.code yX1_isGoal cX1_isGoal 5 (some .boolean)) 3 0 0 [.ref (z 6 3), .ref (T (10 * a + k1)), .ref (T (10 * b + k2)), .ref c] h (jv_rI (jv_bI (m_g2 s.1 (kk m) u m (some t1) (some t2))) h) jv_no := by
  refine jv_ofV (lo := [(0, .ref (z 6 3)), (1, .ref (T (10 * a + k1))), (2, .ref (T (10 * b + k2))), (3, .ref c)]) hlt (by decide) (Nat.le_of_ble_eq_true rfl) rfl (fun E hEl hEd hEz Z G hr ht hnm => ?_)
  subst hEl; subst hEd; subst hEz
  have q1 := om.1; have q2 := om.2.1
  have lt1 := jv_ltGet ht1
  have k10t1 : k1 < 10 := by have := hA.2.2.2.1; omega
  have Ot1 := (hA.2.2.2.2.1 k1 t1 ht1).2
  have Vt1 := (hA.2.2.2.2.1 k1 t1 ht1).1
  have Yt1 := hA.2.1 k1 k10t1
  have bt1n := Ot1.1; have bt1k := Ot1.2.1
  have lt2 := jv_ltGet ht2
  have k10t2 : k2 < 10 := by have := hB.2.2.2.1; omega
  have Ot2 := (hB.2.2.2.2.1 k2 t2 ht2).2
  have Vt2 := (hB.2.2.2.2.1 k2 t2 ht2).1
  have Yt2 := hB.2.1 k2 k10t2
  have bt2n := Ot2.1; have bt2k := Ot2.2.1
  have hnu : mt_n t2 = u := hn2
  refine jv_aload_n (q := 1) G 2 dX1_isGoal_0 rfl rfl rfl ?_
  refine jv_ifnull (q := 4) (tgt := 23) (x := (some (T (10 * b + k2)))) G dX1_isGoal_1 (by decide) rfl (fun c1 => ?_) (fun a2 c1 => ?_)
  · cases c1
  · refine jv_aload_n (q := 5) G 1 dX1_isGoal_4 rfl rfl rfl ?_
    refine jv_ifnull (q := 8) (tgt := 25) (x := (some (T (10 * a + k1)))) G dX1_isGoal_5 (by decide) rfl (fun c3 => ?_) (fun a4 c3 => ?_)
    · cases c3
    · refine jv_aload_n (q := 9) G 1 dX1_isGoal_8 rfl rfl rfl ?_
      refine jv_aload_n (q := 10) G 3 dX1_isGoal_9 rfl rfl rfl ?_
      refine jv_getZ (q := 13) G dX1_isGoal_10 fl_X1_105 rfl hs hm.1 rfl ?_
      refine jv_aload_n (q := 14) G 3 dX1_isGoal_13 rfl rfl rfl ?_
      refine jv_getI (q := 17) G dX1_isGoal_14 fl_X1_111 rfl hs hm.2.2.2.1 rfl ?_
      refine jv_callV_I (q := 20) (h1 := h) (As := [.int (jv_bI (mm_w m)), .int (nI (4 * mm_n m + mm_s m))]) (rest := []) (ce' := 0) (sl' := 0) (r := jv_bI (m_has t1 (mm_w m) (some (4 * mm_n m + mm_s m)))) G Z ml_X1_122 (k_has (w := mm_w m) (ko := some (4 * mm_n m + mm_s m)) hlt Yt1 Vt1 Ot1 (fun K q => by cases q; omega)) (hA.2.1 k1 k10t1).1 dX1_isGoal_17 rfl (by decide) (by decide) (by decide) (by decide) (Nat.le_of_ble_eq_true rfl) rfl rfl rfl rfl ?_
      refine jv_if_eqB (q := 23) (tgt := 25) G dX1_isGoal_20 (by decide) rfl (fun c5 => ?_) (fun c5 => ?_)
      · rw [km_has Ot1 hu1 om] at c5
        refine jv_aload_n (q := 26) G 2 dX1_isGoal_25 rfl rfl rfl ?_
        refine jv_aload_n (q := 27) G 3 dX1_isGoal_26 rfl rfl rfl ?_
        refine jv_getZ (q := 30) G dX1_isGoal_27 fl_X1_105 rfl hs hm.1 rfl ?_
        refine jv_aload_n (q := 31) G 3 dX1_isGoal_30 rfl rfl rfl ?_
        refine jv_getI (q := 34) G dX1_isGoal_31 fl_X1_111 rfl hs hm.2.2.2.1 rfl ?_
        refine jv_callV_R (q := 37) (h1 := h) (As := [.int (jv_bI (mm_w m)), .int (nI (4 * mm_n m + mm_s m))]) (rest := []) (ce' := 0) (sl' := 0) (r := ((m_oc t2 (mm_w m) (some (4 * mm_n m + mm_s m))).map (N (T (10 * b + k2))))) G Z ml_X1_89 (k_own (w := mm_w m) (ko := some (4 * mm_n m + mm_s m)) hlt Yt2 Vt2 Ot2 (fun K q => by cases q; omega)) (hB.2.1 k2 k10t2).1 dX1_isGoal_34 rfl (by decide) (by decide) (by decide) (by decide) (Nat.le_of_ble_eq_true rfl) rfl rfl rfl rfl ?_
        rcases Option.eq_none_or_eq_some (m_oc t2 (mm_w m) (some (4 * mm_n m + mm_s m))) with hj8 | ⟨j6, hj8⟩
        · refine jv_topR (y := none) (by rw [hj8]; rfl) ?_
          refine jv_astoreR (q := 39) (lo' := [(4, va_rf none), (0, .ref (z 6 3)), (1, .ref (T (10 * a + k1))), (2, .ref (T (10 * b + k2))), (3, .ref c)]) (x := none) G dX1_isGoal_37 (by decide) rfl rfl ?_
          refine jv_aloadR (q := 41) G 0 dX1_isGoal_39 rfl rfl ?_
          refine jv_ifnull (q := 44) (tgt := 83) (x := none) G dX1_isGoal_41 (by decide) rfl (fun c9 => ?_) (fun a10 c9 => ?_)
          · refine jv_iconst (q := 84) (v := nI 0) G dX1_isGoal_83 (by decide) rfl ?_
            refine jv_topI (y := jv_bI false) rfl ?_
            refine jv_zret G hr dX1_isGoal_84 (Nat.le_of_ble_eq_true rfl) (Nat.le_of_ble_eq_true rfl) ?_
            refine ⟨?_, rfl⟩
            unfold m_g2
            rw [kk_wk, km_oc_n Ot2 (by omega) hj8]
          · cases c9
        · refine jv_topR (y := (some (N (T (10 * b + k2)) j6))) (by rw [hj8]; rfl) ?_
          obtain ⟨m7, hm7, wm7, km7⟩ := oc_some hj8
          have lm7 := jv_ltGet hm7
          have Om7 := Ot2.2.2.2.2.2.2 m7 (List.mem_of_getElem? hm7)
          have Vm7 := ct_m Vt2 hm7
          have j6m7 : j6 < 6 := by have := Ot2.2.2.2.2.2.1; omega
          have bm7a := Om7.2.2.1
          refine jv_astore (q := 39) (lo' := [(4, .ref (N (T (10 * b + k2)) j6)), (0, .ref (z 6 3)), (1, .ref (T (10 * a + k1))), (2, .ref (T (10 * b + k2))), (3, .ref c)]) G dX1_isGoal_37 (by decide) rfl rfl ?_
          refine jv_aload (q := 41) G 0 dX1_isGoal_39 rfl rfl ?_
          refine jv_ifnull (q := 44) (tgt := 83) (x := (some (N (T (10 * b + k2)) j6))) G dX1_isGoal_41 (by decide) rfl (fun c11 => ?_) (fun a12 c11 => ?_)
          · cases c11
          · refine jv_aload (q := 46) G 0 dX1_isGoal_44 rfl rfl ?_
            refine jv_aload_n (q := 47) G 4 dX1_isGoal_46 rfl rfl rfl ?_
            refine jv_callV_I (q := 50) (h1 := h) (As := [.ref c]) (rest := []) (ce' := 0) (sl' := 0) (r := jv_bI (m_lk m7 m)) G Z ml_X1_126 (k_isLike hlt (Yt2.2.2.2.2.2.2.2 j6 j6m7).2 Vm7 hs hm Om7 om) (Yt2.2.2.2.2.2.2.2 j6 j6m7).2 dX1_isGoal_47 rfl (by decide) (by decide) (by decide) (by decide) (Nat.le_of_ble_eq_true rfl) rfl rfl rfl rfl ?_
            refine jv_if_eqB (q := 53) (tgt := 83) G dX1_isGoal_50 (by decide) rfl (fun c13 => ?_) (fun c13 => ?_)
            · rw [lk_like wm7 (Option.some.inj km7)] at c13
              refine jv_iconst (q := 84) (v := nI 0) G dX1_isGoal_83 (by decide) rfl ?_
              refine jv_topI (y := jv_bI false) rfl ?_
              refine jv_zret G hr dX1_isGoal_84 (Nat.le_of_ble_eq_true rfl) (Nat.le_of_ble_eq_true rfl) ?_
              refine ⟨?_, rfl⟩
              unfold m_g2
              rw [kk_wk, km_oc_s Ot2 (by omega) hj8 hm7]; dsimp only; rw [← kk_wk]; rw [show (m_km (some t1) (kk m)).isNone = true from by rw [← Option.not_isSome, c5]; rfl]; rw [c13]
              first | done | rfl | simp [m_km]
            · rw [lk_like wm7 (Option.some.inj km7)] at c13
              refine jv_aload_n (q := 54) G 1 dX1_isGoal_53 rfl rfl rfl ?_
              refine jv_getQ (q := 57) G dX1_isGoal_54 fl_X1_38 rfl lk.1 (ck_p lk 9 (by decide) (by decide)) rfl ?_
              refine jv_aload_n (q := 58) G 3 dX1_isGoal_57 rfl rfl rfl ?_
              refine jv_getI (q := 61) G dX1_isGoal_58 fl_X1_75 rfl (hB.2.1 k2 k10t2).1 (ct_0 (hB.2.2.2.2.1 k2 t2 ht2).1) rfl ?_
              refine jv_aload_n (q := 62) G 4 dX1_isGoal_61 rfl rfl rfl ?_
              refine jv_getZ (q := 65) G dX1_isGoal_62 fl_X1_105 rfl hs hm.1 rfl ?_
              refine jv_callS_I (q := 68) (h1 := h) (As := [.int (nI (mt_n t2)), .int (jv_bI (mm_w m))]) (rest := [.ref (z 7 9)]) (ce' := 0) (sl' := 0) (r := nI (2 * mt_n t2 + (if mm_w m then 1 else 0))) G Z ml_X1_71 (k_rowOf hlt) dX1_isGoal_65 rfl (by decide) (by decide) (by decide) (by decide) (Nat.le_of_ble_eq_true rfl) rfl rfl rfl rfl ?_
              obtain ⟨tn, htn, htb⟩ := ck.2 (2 * mt_n t2 + (if mm_w m then 1 else 0)) (by split <;> omega)
              refine jv_lald (q := 69) G dX1_isGoal_68 (ck_s9 lk) rfl (by first | omega | (split <;> omega)) (by decide) htn rfl ?_
              refine jv_aload_n (q := 70) G 4 dX1_isGoal_69 rfl rfl rfl ?_
              refine jv_getI (q := 73) G dX1_isGoal_70 fl_X1_111 rfl hs hm.2.2.2.1 rfl ?_
              refine jv_callSN_I (q := 76) (h1 := h) (As := [.long (lN tn), .int (nI (4 * mm_n m + mm_s m))]) (rest := []) (ce' := 0) (sl' := 0) (r := jv_bI (tn.testBit (4 * mm_n m + mm_s m))) G Z ml_X1_85 (jv_p1 746 (by decide +kernel) rfl) (k_hasBit hlt (by omega)) dX1_isGoal_73 rfl (by decide) (by decide) (by decide) (by decide) (Nat.le_of_ble_eq_true rfl) rfl rfl rfl rfl ?_
              refine jv_if_neB (q := 79) (tgt := 83) G dX1_isGoal_76 (by decide) rfl (fun c14 => ?_) (fun c14 => ?_)
              · rw [htb _ (by omega), show 64 * (2 * mt_n t2 + (if mm_w m then 1 else 0)) + (4 * mm_n m + mm_s m) = 128 * u + kk m from by unfold kk; split <;> omega] at c14
                refine jv_iconst (q := 84) (v := nI 0) G dX1_isGoal_83 (by decide) rfl ?_
                refine jv_topI (y := jv_bI false) rfl ?_
                refine jv_zret G hr dX1_isGoal_84 (Nat.le_of_ble_eq_true rfl) (Nat.le_of_ble_eq_true rfl) ?_
                refine ⟨?_, rfl⟩
                unfold m_g2
                rw [kk_wk, km_oc_s Ot2 (by omega) hj8 hm7]; dsimp only; rw [← kk_wk]; rw [show (m_km (some t1) (kk m)).isNone = true from by rw [← Option.not_isSome, c5]; rfl]; rw [c14]; rw [c13]
                first | done | rfl | simp [m_km]
              · rw [htb _ (by omega), show 64 * (2 * mt_n t2 + (if mm_w m then 1 else 0)) + (4 * mm_n m + mm_s m) = 128 * u + kk m from by unfold kk; split <;> omega] at c14
                refine jv_iconst (q := 80) (v := nI 1) G dX1_isGoal_79 (by decide) rfl ?_
                refine jv_goto (q := 84) G dX1_isGoal_80 (by decide) ?_
                refine jv_topI (y := jv_bI true) rfl ?_
                refine jv_zret G hr dX1_isGoal_84 (Nat.le_of_ble_eq_true rfl) (Nat.le_of_ble_eq_true rfl) ?_
                refine ⟨?_, rfl⟩
                unfold m_g2
                rw [kk_wk, km_oc_s Ot2 (by omega) hj8 hm7]; dsimp only; rw [← kk_wk]; rw [show (m_km (some t1) (kk m)).isNone = true from by rw [← Option.not_isSome, c5]; rfl]; rw [c14]; rw [c13]
                first | done | rfl | simp [m_km]
      · rw [km_has Ot1 hu1 om] at c5
        refine jv_iconst (q := 24) (v := nI 0) G dX1_isGoal_23 (by decide) rfl ?_
        refine jv_topI (y := jv_bI false) rfl ?_
        refine jv_zret G hr dX1_isGoal_24 (Nat.le_of_ble_eq_true rfl) (Nat.le_of_ble_eq_true rfl) ?_
        refine ⟨?_, rfl⟩
        unfold m_g2
        cases m_km (some t2) (kk m) with
        | none => rfl
        | some o => dsimp only; rw [show (m_km (some t1) (kk m)).isNone = false from by rw [← Option.not_isSome, c5]; rfl, Bool.and_false]
