theorem fb_orN (a b : Nat) : lN a ||| lN b = lN (a ||| b) := fb_orL a b
theorem gp_g2 {A B : List mT} {T : Nat → Bool} {t K : Nat} {m : mM} {u : Nat} : m_gp A B T t K m u = (m_near A B t u && m_g2 T K u m (m_ty1 A u) (m_ty1 B u)) := rfl
theorem ck_m.step {z : Nat → Nat → Nat} {h : jv_H} {s : mS} (lk : cl_k z h) (r : ck_m z h s) {t u K tn : Nat} {w : Bool} (ht : t < 16) (hu : u < 16) (hK : K < 64) (htn : jv_L h (z 7 9) (2 * u + (if w then 1 else 0)) = lN tn) : ck_m z (jv_wL (jv_wI h (z 7 8) (128 * t + wk w K) (nI u)) (z 7 9) (2 * u + (if w then 1 else 0)) (lN (tn ||| 2 ^ K))) (fun y => if y = 128 * u + wk w K then true else s.1 y, fun y => if y = 128 * t + wk w K then some u else s.2 y) := by
  refine ⟨fun Y hY => ?_, fun q hq => ?_⟩
  · rw [jv_I_wL, oI_o]
    show _ = jv_oN (if Y = 128 * t + wk w K then some u else s.2 Y)
    by_cases e : Y = 128 * t + wk w K
    · rw [if_pos e, if_pos e]; rfl
    · rw [if_neg e, if_neg e]; exact r.1 Y hY
  · rw [oL_o, jv_L_wI]
    obtain ⟨n0, h1, h2⟩ := r.2 q hq
    by_cases e : q = 2 * u + (if w then 1 else 0)
    · rw [if_pos e]
      refine ⟨_, rfl, fun Y hY => ?_⟩
      show _ = (if 64 * q + Y = 128 * u + wk w K then true else s.1 (64 * q + Y))
      have e0 : n0.testBit Y = tn.testBit Y := by
        have h3 := h1
        rw [e, htn] at h3
        have h4 := h2 Y hY
        obtain ⟨n1, g1, g2⟩ := r.2 q hq
        have h5 : (lN tn).toUInt64.toNat = (lN n0).toUInt64.toNat := by rw [h3]
        have h6 : tn % 2 ^ 64 = n0 % 2 ^ 64 := by
          have a1 : (lN tn).toUInt64.toNat = tn % 2 ^ 64 := by show (UInt64.ofNat tn).toNat = _; rw [UInt64.toNat_ofNat']
          have a2 : (lN n0).toUInt64.toNat = n0 % 2 ^ 64 := by show (UInt64.ofNat n0).toNat = _; rw [UInt64.toNat_ofNat']
          rw [← a1, ← a2, h5]
        have h7 : (tn % 2 ^ 64).testBit Y = (n0 % 2 ^ 64).testBit Y := by rw [h6]
        rw [Nat.testBit_mod_two_pow, Nat.testBit_mod_two_pow, decide_eq_true (by omega : Y < 64)] at h7
        simpa using h7.symm
      rw [Nat.testBit_or, ← e0, h2 Y hY, Nat.testBit_two_pow]
      by_cases eY : K = Y
      · rw [decide_eq_true eY, Bool.or_true, if_pos (by unfold wk; split at e <;> split <;> simp_all <;> omega)]
      · rw [decide_eq_false eY, Bool.or_false, if_neg (by unfold wk; split at e <;> split <;> simp_all <;> omega)]
    · rw [if_neg e]
      refine ⟨n0, h1, fun Y hY => ?_⟩
      show _ = (if 64 * q + Y = 128 * u + wk w K then true else s.1 (64 * q + Y))
      rw [if_neg (by unfold wk; cases w <;> simp at e ⊢ <;> omega)]
      exact h2 Y hY
set_option maxHeartbeats 4000000 in
set_option maxRecDepth 100000 in
theorem k_tm_loop {E : jv_E} {z : Nat → Nat → Nat} {T : Nat → Nat} {N : Nat → Nat → Nat} {h : jv_H} {a b : Nat} {A B : List mT} {UA UB : Nat → List Nat} (hA : cv_E z T N h a A) (hB : cv_E z T N h b B) (uA : cv_Us z T h a A UA) (uB : cv_Us z T h b B UB) (nA : ∀ u l, u < 16 → l < 16 → c_ha A UA (nI u) (nI l) = m_abv A u l) (nB : ∀ u l, u < 16 → l < 16 → c_ha B UB (nI u) (nI l) = m_abv B u l) (lk : cl_k z h) {s : mS} (ck : ck_m z h s) {c kt : Nat} {m : mM} {t0 : mT} (hs : jv_sh h c = some (.inl 3)) (hm : cv_M h c m) (om : mm_ok m) (ht0 : A[kt]? = some t0) (hkA : ∀ (i : Nat) t, A[i]? = some t → m_uk t) (hkm : m_km (m_ty1 A (mt_n t0)) (kk m) = some m) (hno : m_km (m_ty1 B (mt_n t0)) (kk m) = none) (hlt : (jv_l E).stackTraces = false) (G : jv_C E cX1_takeMove RX1 6) (Z : jv_rm E = jv_room 4 0 0) (hr : (jv_mt E).sig.returnType = none) : ∀ (n u : Nat), u + n = 16 → (∀ v, v < u → (m_gp A B s.1 (mt_n t0) (kk m) m) v = false) → jv_V E 6 h 0 0 (jv_Q E (fun y h' => y = none ∧ cF (fun y => y = z 7 8 ∨ y = z 7 9) h h' ∧ ck_m z h' (m_stp A B s (mt_n t0) (kk m))) jv_no 0 0) 3 [(5, .int (nI u)), (0, .ref (z 6 3)), (1, .ref (z 0 a)), (2, .ref (z 0 b)), (3, .ref (T (10 * a + kt))), (4, .ref c)] [] := by
  have hg := goal_2 (T := s.1) hkm hno
  have q1 := om.1; have q2 := om.2.1
  intro n
  induction n with
  | zero =>
    intro u hn hp
    have lt0 := jv_ltGet ht0
    have k10t0 : kt < 10 := by have := hA.2.2.2.1; omega
    have Ot0 := (hA.2.2.2.2.1 kt t0 ht0).2
    have Vt0 := (hA.2.2.2.2.1 kt t0 ht0).1
    have Yt0 := hA.2.1 kt k10t0
    have bt0n := Ot0.1; have bt0k := Ot0.2.1
    refine jv_iload (q := 5) G 0 dX1_takeMove_3 rfl rfl ?_
    refine jv_bipush (q := 7) (v := nI 16) G dX1_takeMove_5 (by decide) rfl ?_
    refine jv_icmp_geN (q := 10) (tgt := 101) G dX1_takeMove_7 (by decide) rfl (by omega) (by omega) (fun c1 => ?_) (fun c1 => ?_)
    · refine jv_vret G hr dX1_takeMove_101 (Nat.le_of_ble_eq_true rfl) (Nat.le_of_ble_eq_true rfl) ?_
      refine ⟨rfl, cF.rf, ?_⟩
      rw [stp_n (hg.trans (sf_none.mpr (fun j _ hj => hp j (by omega))))]; exact ck
    · omega
  | succ n ih =>
    intro u hn hp
    have lt0 := jv_ltGet ht0
    have k10t0 : kt < 10 := by have := hA.2.2.2.1; omega
    have Ot0 := (hA.2.2.2.2.1 kt t0 ht0).2
    have Vt0 := (hA.2.2.2.2.1 kt t0 ht0).1
    have Yt0 := hA.2.1 kt k10t0
    have bt0n := Ot0.1; have bt0k := Ot0.2.1
    refine jv_iload (q := 5) G 0 dX1_takeMove_3 rfl rfl ?_
    refine jv_bipush (q := 7) (v := nI 16) G dX1_takeMove_5 (by decide) rfl ?_
    refine jv_icmp_geN (q := 10) (tgt := 101) G dX1_takeMove_7 (by decide) rfl (by omega) (by omega) (fun c1 => ?_) (fun c1 => ?_)
    · omega
    · refine jv_aload_n (q := 11) G 2 dX1_takeMove_10 rfl rfl rfl ?_
      refine jv_aload_n (q := 12) G 3 dX1_takeMove_11 rfl rfl rfl ?_
      refine jv_aload_n (q := 13) G 4 dX1_takeMove_12 rfl rfl rfl ?_
      refine jv_getI (q := 16) G dX1_takeMove_13 fl_X1_75 rfl (hA.2.1 kt k10t0).1 (ct_0 (hA.2.2.2.2.1 kt t0 ht0).1) rfl ?_
      refine jv_iload (q := 18) G 0 dX1_takeMove_16 rfl rfl ?_
      refine jv_callS_I (q := 21) (h1 := h) (As := [.ref (z 0 a), .ref (z 0 b), .int (nI (mt_n t0)), .int (nI u)]) (rest := []) (ce' := 0) (sl' := 0) (r := jv_bI (m_near A B (mt_n t0) u)) G Z ml_X1_97 (k_areAkin hlt hA hB uA uB nA nB bt0n (by omega)) dX1_takeMove_18 rfl (by decide) (by decide) (by decide) (by decide) (Nat.le_of_ble_eq_true rfl) rfl rfl rfl rfl ?_
      refine jv_if_eqB (q := 24) (tgt := 95) G dX1_takeMove_21 (by decide) rfl (fun c2 => ?_) (fun c2 => ?_)
      · refine jv_iinc (q := 98) (lo' := [(5, .int (nI (u + 1))), (0, .ref (z 6 3)), (1, .ref (z 0 a)), (2, .ref (z 0 b)), (3, .ref (T (10 * a + kt))), (4, .ref c)]) (v := nI (u + 1)) G 0 dX1_takeMove_95 rfl (nI_1 u) (by decide) rfl rfl ?_
        refine jv_goto (q := 3) G dX1_takeMove_98 (by decide) ?_
        refine jv_lo [0, 1, 2, 3, 4, 5] (lo' := [(5, .int (nI (u + 1))), (0, .ref (z 6 3)), (1, .ref (z 0 a)), (2, .ref (z 0 b)), (3, .ref (T (10 * a + kt))), (4, .ref c)]) rfl ?_
        refine ih (u + 1) (by omega) (fun v hv => ?_)
        by_cases q : v = u
        · subst q; rw [gp_g2, c2, Bool.false_and]
        · exact hp v (by omega)
      · refine jv_aload_n (q := 25) G 1 dX1_takeMove_24 rfl rfl rfl ?_
        refine jv_aload_n (q := 26) G 2 dX1_takeMove_25 rfl rfl rfl ?_
        refine jv_iload (q := 28) G 0 dX1_takeMove_26 rfl rfl ?_
        refine jv_callV_R (q := 31) (h1 := h) (As := [.int (nI u)]) (rest := [.ref (z 6 3)]) (ce' := 0) (sl' := 0) (r := ((m_at A (nI u)).map (fun k => T (10 * a + k)))) G Z ml_X1_59 (k_named hlt hA) hA.1.1 dX1_takeMove_28 rfl (by decide) (by decide) (by decide) (by decide) (Nat.le_of_ble_eq_true rfl) rfl rfl rfl rfl ?_
        rcases Option.eq_none_or_eq_some (m_at A (nI u)) with hk5 | ⟨k3, hk5⟩
        · refine jv_topR (y := none) (by rw [hk5]; rfl) ?_
          refine jv_aload_n (q := 32) G 3 dX1_takeMove_31 rfl rfl rfl ?_
          refine jv_iload (q := 34) G 0 dX1_takeMove_32 rfl rfl ?_
          refine jv_callV_R (q := 37) (h1 := h) (As := [.int (nI u)]) (rest := [va_rf none, .ref (z 6 3)]) (ce' := 0) (sl' := 0) (r := ((m_at B (nI u)).map (fun k => T (10 * b + k)))) G Z ml_X1_59 (k_named hlt hB) hB.1.1 dX1_takeMove_34 rfl (by decide) (by decide) (by decide) (by decide) (Nat.le_of_ble_eq_true rfl) rfl rfl rfl rfl ?_
          rcases Option.eq_none_or_eq_some (m_at B (nI u)) with hk8 | ⟨k6, hk8⟩
          · refine jv_topR (y := none) (by rw [hk8]; rfl) ?_
            refine jv_aload (q := 39) G 5 dX1_takeMove_37 rfl rfl ?_
            have tyA : m_ty1 A u = none := ty1_n hk5
            have tyB : m_ty1 B u = none := ty1_n hk8
            refine jv_callV_I (q := 42) (h1 := h) (As := [va_rf none, va_rf none, .ref c]) (rest := []) (ce' := 0) (sl' := 0) (r := jv_bI (m_g2 s.1 (kk m) u m none none)) G Z ml_X1_101 (k_isGoal00 hlt hA hB lk ck hs hm om (by omega)) lk.1 dX1_takeMove_39 rfl (by decide) (by decide) (by decide) (by decide) (Nat.le_of_ble_eq_true rfl) rfl rfl rfl rfl ?_
            refine jv_if_eqB (q := 45) (tgt := 95) G dX1_takeMove_42 (by decide) rfl (fun c9 => ?_) (fun c9 => ?_)
            · refine jv_iinc (q := 98) (lo' := [(5, .int (nI (u + 1))), (0, .ref (z 6 3)), (1, .ref (z 0 a)), (2, .ref (z 0 b)), (3, .ref (T (10 * a + kt))), (4, .ref c)]) (v := nI (u + 1)) G 0 dX1_takeMove_95 rfl (nI_1 u) (by decide) rfl rfl ?_
              refine jv_goto (q := 3) G dX1_takeMove_98 (by decide) ?_
              refine jv_lo [0, 1, 2, 3, 4, 5] (lo' := [(5, .int (nI (u + 1))), (0, .ref (z 6 3)), (1, .ref (z 0 a)), (2, .ref (z 0 b)), (3, .ref (T (10 * a + kt))), (4, .ref c)]) rfl ?_
              refine ih (u + 1) (by omega) (fun v hv => ?_)
              by_cases q : v = u
              · subst q; rw [gp_g2, tyA, tyB, c9, Bool.and_false]
              · exact hp v (by omega)
            · refine jv_aload_n (q := 46) G 1 dX1_takeMove_45 rfl rfl rfl ?_
              refine jv_getQ (q := 49) G dX1_takeMove_46 fl_X1_35 rfl lk.1 (ck_p lk 8 (by decide) (by decide)) rfl ?_
              refine jv_aload_n (q := 50) G 4 dX1_takeMove_49 rfl rfl rfl ?_
              refine jv_getI (q := 53) G dX1_takeMove_50 fl_X1_75 rfl (hA.2.1 kt k10t0).1 (ct_0 (hA.2.2.2.2.1 kt t0 ht0).1) rfl ?_
              refine jv_aload (q := 55) G 5 dX1_takeMove_53 rfl rfl ?_
              refine jv_getZ (q := 58) G dX1_takeMove_55 fl_X1_105 rfl hs hm.1 rfl ?_
              refine jv_aload (q := 60) G 5 dX1_takeMove_58 rfl rfl ?_
              refine jv_getI (q := 63) G dX1_takeMove_60 fl_X1_111 rfl hs hm.2.2.2.1 rfl ?_
              refine jv_callS_I (q := 66) (h1 := h) (As := [.int (nI (mt_n t0)), .int (jv_bI (mm_w m)), .int (nI (4 * mm_n m + mm_s m))]) (rest := [.ref (z 7 8)]) (ce' := 0) (sl' := 0) (r := nI (128 * mt_n t0 + wk (mm_w m) (4 * mm_n m + mm_s m))) G Z ml_X1_114 (k_spotOf hlt) dX1_takeMove_63 rfl (by decide) (by decide) (by decide) (by decide) (Nat.le_of_ble_eq_true rfl) rfl rfl rfl rfl ?_
              have hwk : wk (mm_w m) (4 * mm_n m + mm_s m) < 128 := by rw [← kk_wk]; exact kk_lt om
              refine jv_iload (q := 68) G 0 dX1_takeMove_66 rfl rfl ?_
              refine jv_iast (q := 69) G dX1_takeMove_68 (ck_s8 lk) rfl (by omega) (by decide) rfl ?_
              have n8c : ¬ (c = z 7 8) := fun q => by have s1 := hs; rw [q, ck_s8 lk] at s1; cases s1
              refine jv_aload_n (q := 70) G 1 dX1_takeMove_69 rfl rfl rfl ?_
              refine jv_getQ (q := 73) G dX1_takeMove_70 fl_X1_38 rfl lk.1 (ck_p lk 9 (by decide) (by decide)) rfl ?_
              refine jv_iload (q := 75) G 0 dX1_takeMove_73 rfl rfl ?_
              refine jv_aload (q := 77) G 5 dX1_takeMove_75 rfl rfl ?_
              refine jv_getZ (q := 80) G dX1_takeMove_77 fl_X1_105 rfl hs ((jv_I_wI _ _ _ _ _ _).trans ((if_neg (fun q => n8c q.1)).trans hm.1)) rfl ?_
              refine jv_callS_I (q := 83) (h1 := jv_wI h (z 7 8) (128 * mt_n t0 + wk (mm_w m) (4 * mm_n m + mm_s m)) (nI u)) (As := [.int (nI u), .int (jv_bI (mm_w m))]) (rest := [.ref (z 7 9)]) (ce' := 0) (sl' := 0) (r := nI (2 * u + (if mm_w m then 1 else 0))) G Z ml_X1_71 (k_rowOf hlt) dX1_takeMove_80 rfl (by decide) (by decide) (by decide) (by decide) (Nat.le_of_ble_eq_true rfl) rfl rfl rfl rfl ?_
              obtain ⟨tn, htn, htb⟩ := ck.2 (2 * u + (if mm_w m then 1 else 0)) (by split <;> omega)
              have hrow : 2 * u + (if mm_w m then 1 else 0) < 32 := by split <;> omega
              refine jv_dup2 (q := 84) G dX1_takeMove_83 rfl rfl rfl ?_
              refine jv_lald (q := 85) G dX1_takeMove_84 (ck_s9 lk) rfl (by omega) (by decide) htn rfl ?_
              refine jv_lconst (q := 86) (v := 1) G dX1_takeMove_85 (by decide) rfl ?_
              refine jv_aload (q := 88) G 5 dX1_takeMove_86 rfl rfl ?_
              refine jv_getI (q := 91) G dX1_takeMove_88 fl_X1_111 rfl hs ((jv_I_wI _ _ _ _ _ _).trans ((if_neg (fun q => n8c q.1)).trans hm.2.2.2.1)) rfl ?_
              refine jv_lshl (q := 92) G dX1_takeMove_91 rfl rfl ?_
              refine jv_lor (q := 93) G dX1_takeMove_92 rfl ?_
              refine jv_last (q := 94) G dX1_takeMove_93 (ck_s9 lk) rfl (by omega) (by decide) rfl ?_
              refine jv_vret G hr dX1_takeMove_94 (Nat.le_of_ble_eq_true rfl) (Nat.le_of_ble_eq_true rfl) ?_
              have hgp : (m_gp A B s.1 (mt_n t0) (kk m) m) u = true := by rw [gp_g2, c2, tyA, tyB, c9]; rfl
              refine ⟨rfl, show cF (fun y => y = z 7 8 ∨ y = z 7 9) h (jv_wL (jv_wI h (z 7 8) (128 * mt_n t0 + wk (mm_w m) (4 * mm_n m + mm_s m)) (nI u)) (z 7 9) (2 * u + (if mm_w m then 1 else 0)) ((lN tn) ||| ((1 : Int64) <<< ((nI (4 * mm_n m + mm_s m)).toInt64 &&& 63)))) from (((cF.rf (S := (fun y => y = z 7 8 ∨ y = z 7 9))).wI (Or.inl rfl) (128 * mt_n t0 + wk (mm_w m) (4 * mm_n m + mm_s m)) (nI u)).wL (Or.inr rfl) (2 * u + (if mm_w m then 1 else 0)) ((lN tn) ||| ((1 : Int64) <<< ((nI (4 * mm_n m + mm_s m)).toInt64 &&& 63)))), ?_⟩
              rw [stp_s (hg.trans (sf_first (by omega) hgp hp)), lN_shl _ (by omega), fb_orN, kk_wk]
              exact ck.step lk bt0n (by omega) (by omega) htn
          · refine jv_topR (y := (some (T (10 * b + k6)))) (by rw [hk8]; rfl) ?_
            obtain ⟨t7, ht7, nt7⟩ := m_at_get hk8
            have lt7 := jv_ltGet ht7
            have k10t7 : k6 < 10 := by have := hB.2.2.2.1; omega
            have Ot7 := (hB.2.2.2.2.1 k6 t7 ht7).2
            have Vt7 := (hB.2.2.2.2.1 k6 t7 ht7).1
            have Yt7 := hB.2.1 k6 k10t7
            have bt7n := Ot7.1; have bt7k := Ot7.2.1
            refine jv_aload (q := 39) G 5 dX1_takeMove_37 rfl rfl ?_
            have tyA : m_ty1 A u = none := ty1_n hk5
            have tyB : m_ty1 B u = some t7 := ty1_s hk8 ht7
            refine jv_callV_I (q := 42) (h1 := h) (As := [va_rf none, .ref (T (10 * b + k6)), .ref c]) (rest := []) (ce' := 0) (sl' := 0) (r := jv_bI (m_g2 s.1 (kk m) u m none (some t7))) G Z ml_X1_101 (k_isGoal01 hlt hA hB lk ck hs hm om (by omega) ht7 ((nI_eq (by omega) (by omega)).mp nt7)) lk.1 dX1_takeMove_39 rfl (by decide) (by decide) (by decide) (by decide) (Nat.le_of_ble_eq_true rfl) rfl rfl rfl rfl ?_
            refine jv_if_eqB (q := 45) (tgt := 95) G dX1_takeMove_42 (by decide) rfl (fun c10 => ?_) (fun c10 => ?_)
            · refine jv_iinc (q := 98) (lo' := [(5, .int (nI (u + 1))), (0, .ref (z 6 3)), (1, .ref (z 0 a)), (2, .ref (z 0 b)), (3, .ref (T (10 * a + kt))), (4, .ref c)]) (v := nI (u + 1)) G 0 dX1_takeMove_95 rfl (nI_1 u) (by decide) rfl rfl ?_
              refine jv_goto (q := 3) G dX1_takeMove_98 (by decide) ?_
              refine jv_lo [0, 1, 2, 3, 4, 5] (lo' := [(5, .int (nI (u + 1))), (0, .ref (z 6 3)), (1, .ref (z 0 a)), (2, .ref (z 0 b)), (3, .ref (T (10 * a + kt))), (4, .ref c)]) rfl ?_
              refine ih (u + 1) (by omega) (fun v hv => ?_)
              by_cases q : v = u
              · subst q; rw [gp_g2, tyA, tyB, c10, Bool.and_false]
              · exact hp v (by omega)
            · refine jv_aload_n (q := 46) G 1 dX1_takeMove_45 rfl rfl rfl ?_
              refine jv_getQ (q := 49) G dX1_takeMove_46 fl_X1_35 rfl lk.1 (ck_p lk 8 (by decide) (by decide)) rfl ?_
              refine jv_aload_n (q := 50) G 4 dX1_takeMove_49 rfl rfl rfl ?_
              refine jv_getI (q := 53) G dX1_takeMove_50 fl_X1_75 rfl (hA.2.1 kt k10t0).1 (ct_0 (hA.2.2.2.2.1 kt t0 ht0).1) rfl ?_
              refine jv_aload (q := 55) G 5 dX1_takeMove_53 rfl rfl ?_
              refine jv_getZ (q := 58) G dX1_takeMove_55 fl_X1_105 rfl hs hm.1 rfl ?_
              refine jv_aload (q := 60) G 5 dX1_takeMove_58 rfl rfl ?_
              refine jv_getI (q := 63) G dX1_takeMove_60 fl_X1_111 rfl hs hm.2.2.2.1 rfl ?_
              refine jv_callS_I (q := 66) (h1 := h) (As := [.int (nI (mt_n t0)), .int (jv_bI (mm_w m)), .int (nI (4 * mm_n m + mm_s m))]) (rest := [.ref (z 7 8)]) (ce' := 0) (sl' := 0) (r := nI (128 * mt_n t0 + wk (mm_w m) (4 * mm_n m + mm_s m))) G Z ml_X1_114 (k_spotOf hlt) dX1_takeMove_63 rfl (by decide) (by decide) (by decide) (by decide) (Nat.le_of_ble_eq_true rfl) rfl rfl rfl rfl ?_
              have hwk : wk (mm_w m) (4 * mm_n m + mm_s m) < 128 := by rw [← kk_wk]; exact kk_lt om
              refine jv_iload (q := 68) G 0 dX1_takeMove_66 rfl rfl ?_
              refine jv_iast (q := 69) G dX1_takeMove_68 (ck_s8 lk) rfl (by omega) (by decide) rfl ?_
              have n8c : ¬ (c = z 7 8) := fun q => by have s1 := hs; rw [q, ck_s8 lk] at s1; cases s1
              refine jv_aload_n (q := 70) G 1 dX1_takeMove_69 rfl rfl rfl ?_
              refine jv_getQ (q := 73) G dX1_takeMove_70 fl_X1_38 rfl lk.1 (ck_p lk 9 (by decide) (by decide)) rfl ?_
              refine jv_iload (q := 75) G 0 dX1_takeMove_73 rfl rfl ?_
              refine jv_aload (q := 77) G 5 dX1_takeMove_75 rfl rfl ?_
              refine jv_getZ (q := 80) G dX1_takeMove_77 fl_X1_105 rfl hs ((jv_I_wI _ _ _ _ _ _).trans ((if_neg (fun q => n8c q.1)).trans hm.1)) rfl ?_
              refine jv_callS_I (q := 83) (h1 := jv_wI h (z 7 8) (128 * mt_n t0 + wk (mm_w m) (4 * mm_n m + mm_s m)) (nI u)) (As := [.int (nI u), .int (jv_bI (mm_w m))]) (rest := [.ref (z 7 9)]) (ce' := 0) (sl' := 0) (r := nI (2 * u + (if mm_w m then 1 else 0))) G Z ml_X1_71 (k_rowOf hlt) dX1_takeMove_80 rfl (by decide) (by decide) (by decide) (by decide) (Nat.le_of_ble_eq_true rfl) rfl rfl rfl rfl ?_
              obtain ⟨tn, htn, htb⟩ := ck.2 (2 * u + (if mm_w m then 1 else 0)) (by split <;> omega)
              have hrow : 2 * u + (if mm_w m then 1 else 0) < 32 := by split <;> omega
              refine jv_dup2 (q := 84) G dX1_takeMove_83 rfl rfl rfl ?_
              refine jv_lald (q := 85) G dX1_takeMove_84 (ck_s9 lk) rfl (by omega) (by decide) htn rfl ?_
              refine jv_lconst (q := 86) (v := 1) G dX1_takeMove_85 (by decide) rfl ?_
              refine jv_aload (q := 88) G 5 dX1_takeMove_86 rfl rfl ?_
              refine jv_getI (q := 91) G dX1_takeMove_88 fl_X1_111 rfl hs ((jv_I_wI _ _ _ _ _ _).trans ((if_neg (fun q => n8c q.1)).trans hm.2.2.2.1)) rfl ?_
              refine jv_lshl (q := 92) G dX1_takeMove_91 rfl rfl ?_
              refine jv_lor (q := 93) G dX1_takeMove_92 rfl ?_
              refine jv_last (q := 94) G dX1_takeMove_93 (ck_s9 lk) rfl (by omega) (by decide) rfl ?_
              refine jv_vret G hr dX1_takeMove_94 (Nat.le_of_ble_eq_true rfl) (Nat.le_of_ble_eq_true rfl) ?_
              have hgp : (m_gp A B s.1 (mt_n t0) (kk m) m) u = true := by rw [gp_g2, c2, tyA, tyB, c10]; rfl
              refine ⟨rfl, show cF (fun y => y = z 7 8 ∨ y = z 7 9) h (jv_wL (jv_wI h (z 7 8) (128 * mt_n t0 + wk (mm_w m) (4 * mm_n m + mm_s m)) (nI u)) (z 7 9) (2 * u + (if mm_w m then 1 else 0)) ((lN tn) ||| ((1 : Int64) <<< ((nI (4 * mm_n m + mm_s m)).toInt64 &&& 63)))) from (((cF.rf (S := (fun y => y = z 7 8 ∨ y = z 7 9))).wI (Or.inl rfl) (128 * mt_n t0 + wk (mm_w m) (4 * mm_n m + mm_s m)) (nI u)).wL (Or.inr rfl) (2 * u + (if mm_w m then 1 else 0)) ((lN tn) ||| ((1 : Int64) <<< ((nI (4 * mm_n m + mm_s m)).toInt64 &&& 63)))), ?_⟩
              rw [stp_s (hg.trans (sf_first (by omega) hgp hp)), lN_shl _ (by omega), fb_orN, kk_wk]
              exact ck.step lk bt0n (by omega) (by omega) htn
        · refine jv_topR (y := (some (T (10 * a + k3)))) (by rw [hk5]; rfl) ?_
          obtain ⟨t4, ht4, nt4⟩ := m_at_get hk5
          have lt4 := jv_ltGet ht4
          have k10t4 : k3 < 10 := by have := hA.2.2.2.1; omega
          have Ot4 := (hA.2.2.2.2.1 k3 t4 ht4).2
          have Vt4 := (hA.2.2.2.2.1 k3 t4 ht4).1
          have Yt4 := hA.2.1 k3 k10t4
          have bt4n := Ot4.1; have bt4k := Ot4.2.1
          refine jv_aload_n (q := 32) G 3 dX1_takeMove_31 rfl rfl rfl ?_
          refine jv_iload (q := 34) G 0 dX1_takeMove_32 rfl rfl ?_
          refine jv_callV_R (q := 37) (h1 := h) (As := [.int (nI u)]) (rest := [.ref (T (10 * a + k3)), .ref (z 6 3)]) (ce' := 0) (sl' := 0) (r := ((m_at B (nI u)).map (fun k => T (10 * b + k)))) G Z ml_X1_59 (k_named hlt hB) hB.1.1 dX1_takeMove_34 rfl (by decide) (by decide) (by decide) (by decide) (Nat.le_of_ble_eq_true rfl) rfl rfl rfl rfl ?_
          rcases Option.eq_none_or_eq_some (m_at B (nI u)) with hk13 | ⟨k11, hk13⟩
          · refine jv_topR (y := none) (by rw [hk13]; rfl) ?_
            refine jv_aload (q := 39) G 5 dX1_takeMove_37 rfl rfl ?_
            have tyA : m_ty1 A u = some t4 := ty1_s hk5 ht4
            have tyB : m_ty1 B u = none := ty1_n hk13
            refine jv_callV_I (q := 42) (h1 := h) (As := [.ref (T (10 * a + k3)), va_rf none, .ref c]) (rest := []) (ce' := 0) (sl' := 0) (r := jv_bI (m_g2 s.1 (kk m) u m (some t4) none)) G Z ml_X1_101 (k_isGoal10 hlt hA hB lk ck hs hm om (by omega) ht4 (hkA _ _ ht4)) lk.1 dX1_takeMove_39 rfl (by decide) (by decide) (by decide) (by decide) (Nat.le_of_ble_eq_true rfl) rfl rfl rfl rfl ?_
            refine jv_if_eqB (q := 45) (tgt := 95) G dX1_takeMove_42 (by decide) rfl (fun c14 => ?_) (fun c14 => ?_)
            · refine jv_iinc (q := 98) (lo' := [(5, .int (nI (u + 1))), (0, .ref (z 6 3)), (1, .ref (z 0 a)), (2, .ref (z 0 b)), (3, .ref (T (10 * a + kt))), (4, .ref c)]) (v := nI (u + 1)) G 0 dX1_takeMove_95 rfl (nI_1 u) (by decide) rfl rfl ?_
              refine jv_goto (q := 3) G dX1_takeMove_98 (by decide) ?_
              refine jv_lo [0, 1, 2, 3, 4, 5] (lo' := [(5, .int (nI (u + 1))), (0, .ref (z 6 3)), (1, .ref (z 0 a)), (2, .ref (z 0 b)), (3, .ref (T (10 * a + kt))), (4, .ref c)]) rfl ?_
              refine ih (u + 1) (by omega) (fun v hv => ?_)
              by_cases q : v = u
              · subst q; rw [gp_g2, tyA, tyB, c14, Bool.and_false]
              · exact hp v (by omega)
            · refine jv_aload_n (q := 46) G 1 dX1_takeMove_45 rfl rfl rfl ?_
              refine jv_getQ (q := 49) G dX1_takeMove_46 fl_X1_35 rfl lk.1 (ck_p lk 8 (by decide) (by decide)) rfl ?_
              refine jv_aload_n (q := 50) G 4 dX1_takeMove_49 rfl rfl rfl ?_
              refine jv_getI (q := 53) G dX1_takeMove_50 fl_X1_75 rfl (hA.2.1 kt k10t0).1 (ct_0 (hA.2.2.2.2.1 kt t0 ht0).1) rfl ?_
              refine jv_aload (q := 55) G 5 dX1_takeMove_53 rfl rfl ?_
              refine jv_getZ (q := 58) G dX1_takeMove_55 fl_X1_105 rfl hs hm.1 rfl ?_
              refine jv_aload (q := 60) G 5 dX1_takeMove_58 rfl rfl ?_
              refine jv_getI (q := 63) G dX1_takeMove_60 fl_X1_111 rfl hs hm.2.2.2.1 rfl ?_
              refine jv_callS_I (q := 66) (h1 := h) (As := [.int (nI (mt_n t0)), .int (jv_bI (mm_w m)), .int (nI (4 * mm_n m + mm_s m))]) (rest := [.ref (z 7 8)]) (ce' := 0) (sl' := 0) (r := nI (128 * mt_n t0 + wk (mm_w m) (4 * mm_n m + mm_s m))) G Z ml_X1_114 (k_spotOf hlt) dX1_takeMove_63 rfl (by decide) (by decide) (by decide) (by decide) (Nat.le_of_ble_eq_true rfl) rfl rfl rfl rfl ?_
              have hwk : wk (mm_w m) (4 * mm_n m + mm_s m) < 128 := by rw [← kk_wk]; exact kk_lt om
              refine jv_iload (q := 68) G 0 dX1_takeMove_66 rfl rfl ?_
              refine jv_iast (q := 69) G dX1_takeMove_68 (ck_s8 lk) rfl (by omega) (by decide) rfl ?_
              have n8c : ¬ (c = z 7 8) := fun q => by have s1 := hs; rw [q, ck_s8 lk] at s1; cases s1
              refine jv_aload_n (q := 70) G 1 dX1_takeMove_69 rfl rfl rfl ?_
              refine jv_getQ (q := 73) G dX1_takeMove_70 fl_X1_38 rfl lk.1 (ck_p lk 9 (by decide) (by decide)) rfl ?_
              refine jv_iload (q := 75) G 0 dX1_takeMove_73 rfl rfl ?_
              refine jv_aload (q := 77) G 5 dX1_takeMove_75 rfl rfl ?_
              refine jv_getZ (q := 80) G dX1_takeMove_77 fl_X1_105 rfl hs ((jv_I_wI _ _ _ _ _ _).trans ((if_neg (fun q => n8c q.1)).trans hm.1)) rfl ?_
              refine jv_callS_I (q := 83) (h1 := jv_wI h (z 7 8) (128 * mt_n t0 + wk (mm_w m) (4 * mm_n m + mm_s m)) (nI u)) (As := [.int (nI u), .int (jv_bI (mm_w m))]) (rest := [.ref (z 7 9)]) (ce' := 0) (sl' := 0) (r := nI (2 * u + (if mm_w m then 1 else 0))) G Z ml_X1_71 (k_rowOf hlt) dX1_takeMove_80 rfl (by decide) (by decide) (by decide) (by decide) (Nat.le_of_ble_eq_true rfl) rfl rfl rfl rfl ?_
              obtain ⟨tn, htn, htb⟩ := ck.2 (2 * u + (if mm_w m then 1 else 0)) (by split <;> omega)
              have hrow : 2 * u + (if mm_w m then 1 else 0) < 32 := by split <;> omega
              refine jv_dup2 (q := 84) G dX1_takeMove_83 rfl rfl rfl ?_
              refine jv_lald (q := 85) G dX1_takeMove_84 (ck_s9 lk) rfl (by omega) (by decide) htn rfl ?_
              refine jv_lconst (q := 86) (v := 1) G dX1_takeMove_85 (by decide) rfl ?_
              refine jv_aload (q := 88) G 5 dX1_takeMove_86 rfl rfl ?_
              refine jv_getI (q := 91) G dX1_takeMove_88 fl_X1_111 rfl hs ((jv_I_wI _ _ _ _ _ _).trans ((if_neg (fun q => n8c q.1)).trans hm.2.2.2.1)) rfl ?_
              refine jv_lshl (q := 92) G dX1_takeMove_91 rfl rfl ?_
              refine jv_lor (q := 93) G dX1_takeMove_92 rfl ?_
              refine jv_last (q := 94) G dX1_takeMove_93 (ck_s9 lk) rfl (by omega) (by decide) rfl ?_
              refine jv_vret G hr dX1_takeMove_94 (Nat.le_of_ble_eq_true rfl) (Nat.le_of_ble_eq_true rfl) ?_
              have hgp : (m_gp A B s.1 (mt_n t0) (kk m) m) u = true := by rw [gp_g2, c2, tyA, tyB, c14]; rfl
              refine ⟨rfl, show cF (fun y => y = z 7 8 ∨ y = z 7 9) h (jv_wL (jv_wI h (z 7 8) (128 * mt_n t0 + wk (mm_w m) (4 * mm_n m + mm_s m)) (nI u)) (z 7 9) (2 * u + (if mm_w m then 1 else 0)) ((lN tn) ||| ((1 : Int64) <<< ((nI (4 * mm_n m + mm_s m)).toInt64 &&& 63)))) from (((cF.rf (S := (fun y => y = z 7 8 ∨ y = z 7 9))).wI (Or.inl rfl) (128 * mt_n t0 + wk (mm_w m) (4 * mm_n m + mm_s m)) (nI u)).wL (Or.inr rfl) (2 * u + (if mm_w m then 1 else 0)) ((lN tn) ||| ((1 : Int64) <<< ((nI (4 * mm_n m + mm_s m)).toInt64 &&& 63)))), ?_⟩
              rw [stp_s (hg.trans (sf_first (by omega) hgp hp)), lN_shl _ (by omega), fb_orN, kk_wk]
              exact ck.step lk bt0n (by omega) (by omega) htn
          · refine jv_topR (y := (some (T (10 * b + k11)))) (by rw [hk13]; rfl) ?_
            obtain ⟨t12, ht12, nt12⟩ := m_at_get hk13
            have lt12 := jv_ltGet ht12
            have k10t12 : k11 < 10 := by have := hB.2.2.2.1; omega
            have Ot12 := (hB.2.2.2.2.1 k11 t12 ht12).2
            have Vt12 := (hB.2.2.2.2.1 k11 t12 ht12).1
            have Yt12 := hB.2.1 k11 k10t12
            have bt12n := Ot12.1; have bt12k := Ot12.2.1
            refine jv_aload (q := 39) G 5 dX1_takeMove_37 rfl rfl ?_
            have tyA : m_ty1 A u = some t4 := ty1_s hk5 ht4
            have tyB : m_ty1 B u = some t12 := ty1_s hk13 ht12
            refine jv_callV_I (q := 42) (h1 := h) (As := [.ref (T (10 * a + k3)), .ref (T (10 * b + k11)), .ref c]) (rest := []) (ce' := 0) (sl' := 0) (r := jv_bI (m_g2 s.1 (kk m) u m (some t4) (some t12))) G Z ml_X1_101 (k_isGoal11 hlt hA hB lk ck hs hm om (by omega) ht4 (hkA _ _ ht4) ht12 ((nI_eq (by omega) (by omega)).mp nt12)) lk.1 dX1_takeMove_39 rfl (by decide) (by decide) (by decide) (by decide) (Nat.le_of_ble_eq_true rfl) rfl rfl rfl rfl ?_
            refine jv_if_eqB (q := 45) (tgt := 95) G dX1_takeMove_42 (by decide) rfl (fun c15 => ?_) (fun c15 => ?_)
            · refine jv_iinc (q := 98) (lo' := [(5, .int (nI (u + 1))), (0, .ref (z 6 3)), (1, .ref (z 0 a)), (2, .ref (z 0 b)), (3, .ref (T (10 * a + kt))), (4, .ref c)]) (v := nI (u + 1)) G 0 dX1_takeMove_95 rfl (nI_1 u) (by decide) rfl rfl ?_
              refine jv_goto (q := 3) G dX1_takeMove_98 (by decide) ?_
              refine jv_lo [0, 1, 2, 3, 4, 5] (lo' := [(5, .int (nI (u + 1))), (0, .ref (z 6 3)), (1, .ref (z 0 a)), (2, .ref (z 0 b)), (3, .ref (T (10 * a + kt))), (4, .ref c)]) rfl ?_
              refine ih (u + 1) (by omega) (fun v hv => ?_)
              by_cases q : v = u
              · subst q; rw [gp_g2, tyA, tyB, c15, Bool.and_false]
              · exact hp v (by omega)
            · refine jv_aload_n (q := 46) G 1 dX1_takeMove_45 rfl rfl rfl ?_
              refine jv_getQ (q := 49) G dX1_takeMove_46 fl_X1_35 rfl lk.1 (ck_p lk 8 (by decide) (by decide)) rfl ?_
              refine jv_aload_n (q := 50) G 4 dX1_takeMove_49 rfl rfl rfl ?_
              refine jv_getI (q := 53) G dX1_takeMove_50 fl_X1_75 rfl (hA.2.1 kt k10t0).1 (ct_0 (hA.2.2.2.2.1 kt t0 ht0).1) rfl ?_
              refine jv_aload (q := 55) G 5 dX1_takeMove_53 rfl rfl ?_
              refine jv_getZ (q := 58) G dX1_takeMove_55 fl_X1_105 rfl hs hm.1 rfl ?_
              refine jv_aload (q := 60) G 5 dX1_takeMove_58 rfl rfl ?_
              refine jv_getI (q := 63) G dX1_takeMove_60 fl_X1_111 rfl hs hm.2.2.2.1 rfl ?_
              refine jv_callS_I (q := 66) (h1 := h) (As := [.int (nI (mt_n t0)), .int (jv_bI (mm_w m)), .int (nI (4 * mm_n m + mm_s m))]) (rest := [.ref (z 7 8)]) (ce' := 0) (sl' := 0) (r := nI (128 * mt_n t0 + wk (mm_w m) (4 * mm_n m + mm_s m))) G Z ml_X1_114 (k_spotOf hlt) dX1_takeMove_63 rfl (by decide) (by decide) (by decide) (by decide) (Nat.le_of_ble_eq_true rfl) rfl rfl rfl rfl ?_
              have hwk : wk (mm_w m) (4 * mm_n m + mm_s m) < 128 := by rw [← kk_wk]; exact kk_lt om
              refine jv_iload (q := 68) G 0 dX1_takeMove_66 rfl rfl ?_
              refine jv_iast (q := 69) G dX1_takeMove_68 (ck_s8 lk) rfl (by omega) (by decide) rfl ?_
              have n8c : ¬ (c = z 7 8) := fun q => by have s1 := hs; rw [q, ck_s8 lk] at s1; cases s1
              refine jv_aload_n (q := 70) G 1 dX1_takeMove_69 rfl rfl rfl ?_
              refine jv_getQ (q := 73) G dX1_takeMove_70 fl_X1_38 rfl lk.1 (ck_p lk 9 (by decide) (by decide)) rfl ?_
              refine jv_iload (q := 75) G 0 dX1_takeMove_73 rfl rfl ?_
              refine jv_aload (q := 77) G 5 dX1_takeMove_75 rfl rfl ?_
              refine jv_getZ (q := 80) G dX1_takeMove_77 fl_X1_105 rfl hs ((jv_I_wI _ _ _ _ _ _).trans ((if_neg (fun q => n8c q.1)).trans hm.1)) rfl ?_
              refine jv_callS_I (q := 83) (h1 := jv_wI h (z 7 8) (128 * mt_n t0 + wk (mm_w m) (4 * mm_n m + mm_s m)) (nI u)) (As := [.int (nI u), .int (jv_bI (mm_w m))]) (rest := [.ref (z 7 9)]) (ce' := 0) (sl' := 0) (r := nI (2 * u + (if mm_w m then 1 else 0))) G Z ml_X1_71 (k_rowOf hlt) dX1_takeMove_80 rfl (by decide) (by decide) (by decide) (by decide) (Nat.le_of_ble_eq_true rfl) rfl rfl rfl rfl ?_
              obtain ⟨tn, htn, htb⟩ := ck.2 (2 * u + (if mm_w m then 1 else 0)) (by split <;> omega)
              have hrow : 2 * u + (if mm_w m then 1 else 0) < 32 := by split <;> omega
              refine jv_dup2 (q := 84) G dX1_takeMove_83 rfl rfl rfl ?_
              refine jv_lald (q := 85) G dX1_takeMove_84 (ck_s9 lk) rfl (by omega) (by decide) htn rfl ?_
              refine jv_lconst (q := 86) (v := 1) G dX1_takeMove_85 (by decide) rfl ?_
              refine jv_aload (q := 88) G 5 dX1_takeMove_86 rfl rfl ?_
              refine jv_getI (q := 91) G dX1_takeMove_88 fl_X1_111 rfl hs ((jv_I_wI _ _ _ _ _ _).trans ((if_neg (fun q => n8c q.1)).trans hm.2.2.2.1)) rfl ?_
              refine jv_lshl (q := 92) G dX1_takeMove_91 rfl rfl ?_
              refine jv_lor (q := 93) G dX1_takeMove_92 rfl ?_
              refine jv_last (q := 94) G dX1_takeMove_93 (ck_s9 lk) rfl (by omega) (by decide) rfl ?_
              refine jv_vret G hr dX1_takeMove_94 (Nat.le_of_ble_eq_true rfl) (Nat.le_of_ble_eq_true rfl) ?_
              have hgp : (m_gp A B s.1 (mt_n t0) (kk m) m) u = true := by rw [gp_g2, c2, tyA, tyB, c15]; rfl
              refine ⟨rfl, show cF (fun y => y = z 7 8 ∨ y = z 7 9) h (jv_wL (jv_wI h (z 7 8) (128 * mt_n t0 + wk (mm_w m) (4 * mm_n m + mm_s m)) (nI u)) (z 7 9) (2 * u + (if mm_w m then 1 else 0)) ((lN tn) ||| ((1 : Int64) <<< ((nI (4 * mm_n m + mm_s m)).toInt64 &&& 63)))) from (((cF.rf (S := (fun y => y = z 7 8 ∨ y = z 7 9))).wI (Or.inl rfl) (128 * mt_n t0 + wk (mm_w m) (4 * mm_n m + mm_s m)) (nI u)).wL (Or.inr rfl) (2 * u + (if mm_w m then 1 else 0)) ((lN tn) ||| ((1 : Int64) <<< ((nI (4 * mm_n m + mm_s m)).toInt64 &&& 63)))), ?_⟩
              rw [stp_s (hg.trans (sf_first (by omega) hgp hp)), lN_shl _ (by omega), fb_orN, kk_wk]
              exact ck.step lk bt0n (by omega) (by omega) htn
set_option maxHeartbeats 4000000 in
set_option maxRecDepth 100000 in
theorem k_takeMove {lA : Launch} (hlt : lA.stackTraces = false) {D : jv_D} {base : Nat} {z : Nat → Nat → Nat} {T : Nat → Nat} {N : Nat → Nat → Nat} {h : jv_H} {a b : Nat} {A B : List mT} {UA UB : Nat → List Nat} (hA : cv_E z T N h a A) (hB : cv_E z T N h b B) (uA : cv_Us z T h a A UA) (uB : cv_Us z T h b B UB) (nA : ∀ u l, u < 16 → l < 16 → c_ha A UA (nI u) (nI l) = m_abv A u l) (nB : ∀ u l, u < 16 → l < 16 → c_ha B UB (nI u) (nI l) = m_abv B u l) (lk : cl_k z h) {s : mS} (ck : ck_m z h s) {c kt : Nat} {m : mM} {t0 : mT} (hs : jv_sh h c = some (.inl 3)) (hm : cv_M h c m) (om : mm_ok m) (ht0 : A[kt]? = some t0) (hkA : ∀ (i : Nat) t, A[i]? = some t → m_uk t) (hkm : m_km (m_ty1 A (mt_n t0)) (kk m) = some m) (hno : m_km (m_ty1 B (mt_n t0)) (kk m) = none) : jv_Met lA D base yX1_takeMove (.code yX1_takeMove cX1_takeMove 6 none) 4 0 0 [.ref (z 6 3), .ref (z 0 a), .ref (z 0 b), .ref (T (10 * a + kt)), .ref c] h (fun y h' => y = none ∧ cF (fun y => y = z 7 8 ∨ y = z 7 9) h h' ∧ ck_m z h' (m_stp A B s (mt_n t0) (kk m))) jv_no := by
  refine jv_ofV (lo := [(0, .ref (z 6 3)), (1, .ref (z 0 a)), (2, .ref (z 0 b)), (3, .ref (T (10 * a + kt))), (4, .ref c)]) hlt (by decide) (Nat.le_of_ble_eq_true rfl) rfl (fun E hEl hEd hEz Z G hr ht hnm => ?_)
  subst hEl; subst hEd; subst hEz
  refine jv_iconst (q := 1) (v := nI 0) G dX1_takeMove_0 (by decide) rfl ?_
  refine jv_istore (q := 3) (lo' := [(5, .int (nI 0)), (0, .ref (z 6 3)), (1, .ref (z 0 a)), (2, .ref (z 0 b)), (3, .ref (T (10 * a + kt))), (4, .ref c)]) G dX1_takeMove_1 (by decide) rfl rfl ?_
  refine jv_lo [0, 1, 2, 3, 4, 5] (lo' := [(5, .int (nI 0)), (0, .ref (z 6 3)), (1, .ref (z 0 a)), (2, .ref (z 0 b)), (3, .ref (T (10 * a + kt))), (4, .ref c)]) rfl ?_
  exact k_tm_loop hA hB uA uB nA nB lk ck hs hm om ht0 hkA hkm hno hlt G Z hr 16 0 (by omega) (fun v hv => by omega)
