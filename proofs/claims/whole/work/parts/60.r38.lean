set_option maxHeartbeats 4000000 in
set_option maxRecDepth 100000 in
theorem r_bkk {E : jv_E} {Q : State → Prop} {x : Nat} {q : Nat → Nat} {h0 : jv_H} {a b p : Nat} {A B : List mT} (hS0 : rf_S x q h0) (ha : a < 8) (hb : b < 8) (hp : p < 5) (hEA : rf_E q h0 a A) (hEB : rf_E q h0 b B) (hVA : rf_V q h0 a A) (hVB : rf_V q h0 b B) (gA : ∀ k, k < A.length → m_hg A 11 k) (gB : ∀ k, k < B.length → m_hg B 11 k) {t : Int32} {i j : Nat} {y : mT} {m_ : mM} (hy : A[i]? = some y) (hm_ : (mt_m y)[j]? = some m_) {k0 : Nat} (hlt : (jv_l E).stackTraces = false) (G : jv_C E cX8_breaksType RX8 9) (Z : jv_rm E = jv_room 18 0 0) (hK : ∀ h2, pb x q a p h0 h2 → jv_V E 9 h2 0 0 Q 164 [(4, .int (jv_bI (m_any (m_bkk (decide (b = a)) A B p t m_) 5))), (5, .int (nI k0)), (0, .ref x), (1, .int (nI a)), (2, .int (nI b)), (3, .int t)] []) : ∀ (m k : Nat) (h1 : jv_H), k + m = 5 → pb x q a p h0 h1 → jv_V E 9 h1 0 0 Q 93 [(8, .int (nI k)), (4, .int (jv_bI (m_any (m_bkk (decide (b = a)) A B p t m_) k))), (7, .int (nI (6 * (10 * a + i) + j))), (5, .int (nI k0)), (0, .ref x), (1, .int (nI a)), (2, .int (nI b)), (3, .int t)] [] := by
  intro m
  induction m with
  | zero =>
    intro k h1 hm hpb
    obtain ⟨hrs, hce, hpk, hsu, hx0⟩ := id hpb
    have hS := hrs.S hS0
    have hEA1 := hrs.E hS0 hEA; have hEB1 := hrs.E hS0 hEB; have hVA1 := hrs.V hS0 hVA; have hVB1 := hrs.V hS0 hVB
    have hla := hEA.2.1
    have hil := jv_ltGet hy; have hjl := jv_ltGet hm_; have hl6 := (hEA.2.2 i y hy).2.2.2.2.2.2.1
    have hMm := rt_m (hEA1.2.2 i y hy).1 hm_
    have hOm := (hEA.2.2 i y hy).2.2.2.2.2.2.2 m_ (List.mem_of_getElem? hm_)
    refine jv_iload (q := 95) G 0 dX8_breaksType_93 rfl rfl ?_
    refine jv_iconst (q := 96) (v := nI 5) G dX8_breaksType_95 (by decide) rfl ?_
    refine jv_icmp_geN (q := 99) (tgt := 164) G dX8_breaksType_96 (by decide) rfl (by omega) (by omega) (fun c1 => ?_) (fun c1 => ?_)
    · refine jv_lo [1, 3, 4, 5, 6, 7] (lo' := [(4, .int (jv_bI (m_any (m_bkk (decide (b = a)) A B p t m_) k))), (5, .int (nI k0)), (0, .ref x), (1, .int (nI a)), (2, .int (nI b)), (3, .int t)]) rfl ?_
      rw [show k = 5 by omega]; exact hK _ hpb
    · omega
  | succ m ih =>
    intro k h1 hm hpb
    obtain ⟨hrs, hce, hpk, hsu, hx0⟩ := id hpb
    have hS := hrs.S hS0
    have hEA1 := hrs.E hS0 hEA; have hEB1 := hrs.E hS0 hEB; have hVA1 := hrs.V hS0 hVA; have hVB1 := hrs.V hS0 hVB
    have hla := hEA.2.1
    have hil := jv_ltGet hy; have hjl := jv_ltGet hm_; have hl6 := (hEA.2.2 i y hy).2.2.2.2.2.2.1
    have hMm := rt_m (hEA1.2.2 i y hy).1 hm_
    have hOm := (hEA.2.2 i y hy).2.2.2.2.2.2.2 m_ (List.mem_of_getElem? hm_)
    refine jv_iload (q := 95) G 0 dX8_breaksType_93 rfl rfl ?_
    refine jv_iconst (q := 96) (v := nI 5) G dX8_breaksType_95 (by decide) rfl ?_
    refine jv_icmp_geN (q := 99) (tgt := 164) G dX8_breaksType_96 (by decide) rfl (by omega) (by omega) (fun c1 => ?_) (fun c1 => ?_)
    · omega
    · refine jv_iload (q := 101) G 1 dX8_breaksType_99 rfl rfl ?_
      refine jv_if_neB (q := 104) (tgt := 164) G dX8_breaksType_101 (by decide) rfl (fun c2 => ?_) (fun c2 => ?_)
      · refine jv_lo [1, 3, 4, 5, 6, 7] (lo' := [(4, .int (jv_bI (m_any (m_bkk (decide (b = a)) A B p t m_) k))), (5, .int (nI k0)), (0, .ref x), (1, .int (nI a)), (2, .int (nI b)), (3, .int t)]) rfl ?_
        have e1 : m_any (m_bkk (decide (b = a)) A B p t m_) k = m_any (m_bkk (decide (b = a)) A B p t m_) 5 := by
          rw [c2, ← hm, any_m c2]
        rw [e1]; exact hK _ hpb
      · refine jv_iload (q := 106) G 0 dX8_breaksType_104 rfl rfl ?_
        refine jv_iconst (q := 107) (v := nI 2) G dX8_breaksType_106 (by decide) rfl ?_
        refine jv_icmp_geN (q := 110) (tgt := 114) G dX8_breaksType_107 (by decide) rfl (by omega) (by omega) (fun c3 => ?_) (fun c3 => ?_)
        · refine jv_iconst (q := 115) (v := nI 0) G dX8_breaksType_114 (by decide) rfl ?_
          refine jv_aload_n (q := 116) G 4 dX8_breaksType_115 rfl rfl rfl ?_
          refine jv_getQ (q := 119) G dX8_breaksType_116 fl_X8_44 rfl hS.1 (rf_p13 hS) rfl ?_
          refine jv_iload (q := 121) G 2 dX8_breaksType_119 rfl rfl ?_
          refine jv_iald (q := 122) G dX8_breaksType_121 (rf_a13 hS) rfl (by omega) (by decide) hMm.1 rfl ?_
          refine jv_if_neB (q := 125) (tgt := 129) G dX8_breaksType_122 (by decide) rfl (fun c4 => ?_) (fun c4 => ?_)
          · refine jv_iconst (q := 130) (v := nI 0) G dX8_breaksType_129 (by decide) rfl ?_
            refine jv_icmp_neN (q := 133) (tgt := 158) G dX8_breaksType_130 (by decide) rfl (by omega) (by omega) (fun c5 => ?_) (fun c5 => ?_)
            · omega
            · refine jv_aload_n (q := 134) G 4 dX8_breaksType_133 rfl rfl rfl ?_
              refine jv_iload_n (q := 135) G 5 dX8_breaksType_134 rfl rfl rfl ?_
              refine jv_iload_n (q := 136) G 6 dX8_breaksType_135 rfl rfl rfl ?_
              refine jv_iload (q := 138) G 0 dX8_breaksType_136 rfl rfl ?_
              refine jv_iload_n (q := 139) G 7 dX8_breaksType_138 rfl rfl rfl ?_
              refine jv_aload_n (q := 140) G 4 dX8_breaksType_139 rfl rfl rfl ?_
              refine jv_getQ (q := 143) G dX8_breaksType_140 fl_X8_47 rfl hS.1 (rf_p14 hS) rfl ?_
              refine jv_iload (q := 145) G 2 dX8_breaksType_143 rfl rfl ?_
              refine jv_iald (q := 146) G dX8_breaksType_145 (rf_a14 hS) rfl (by omega) (by decide) hMm.2.1 rfl ?_
              refine jv_aload_n (q := 147) G 4 dX8_breaksType_146 rfl rfl rfl ?_
              refine jv_getQ (q := 150) G dX8_breaksType_147 fl_X8_50 rfl hS.1 (rf_p15 hS) rfl ?_
              refine jv_iload (q := 152) G 2 dX8_breaksType_150 rfl rfl ?_
              refine jv_iald (q := 153) G dX8_breaksType_152 (rf_a15 hS) rfl (by omega) (by decide) hMm.2.2.1 rfl ?_
              refine jv_callV (q := 156) (As := [.int (nI a), .int (nI b), .int (nI k), .int t, .int (nI (mm_n m_)), .int (nI (mm_s m_))]) (rest := []) G Z ml_X8_255 (r_breaksAny hlt hS0 ha hb hp hEA hEB hVA hVB gA gB (by omega) hpb) hS.1 dX8_breaksType_153 rfl (by decide) (by decide) (by decide) (by decide) (Nat.le_of_ble_eq_true rfl) rfl rfl (fun v7 h6 y8 => ?_) (fun _ _ hx => hx.elim)
              obtain ⟨rfl, hpb⟩ := y8
              show jv_V E 9 h6 0 0 Q 156 [(8, .int (nI k)), (4, .int (jv_bI (m_any (m_bkk (decide (b = a)) A B p t m_) k))), (7, .int (nI (6 * (10 * a + i) + j))), (5, .int (nI k0)), (0, .ref x), (1, .int (nI a)), (2, .int (nI b)), (3, .int t)] [.int (jv_bI (m_bka (decide (b = a)) A B p k t (nI (mm_n m_)) (nI (mm_s m_))))]
              clear hrs hce hpk hsu hx0 hS hEA1 hEB1 hVA1 hVB1
              obtain ⟨hrs, hce, hpk, hsu, hx0⟩ := id hpb
              have hS := hrs.S hS0
              have hEA1 := hrs.E hS0 hEA; have hEB1 := hrs.E hS0 hEB; have hVA1 := hrs.V hS0 hVA; have hVB1 := hrs.V hS0 hVB
              have hla := hEA.2.1
              refine jv_istore (q := 158) (lo' := [(4, .int (jv_bI (m_bka (decide (b = a)) A B p k t (nI (mm_n m_)) (nI (mm_s m_))))), (8, .int (nI k)), (7, .int (nI (6 * (10 * a + i) + j))), (5, .int (nI k0)), (0, .ref x), (1, .int (nI a)), (2, .int (nI b)), (3, .int t)]) G dX8_breaksType_156 (by decide) rfl rfl ?_
              refine jv_iinc (q := 161) (lo' := [(8, .int (nI (k + 1))), (4, .int (jv_bI (m_bka (decide (b = a)) A B p k t (nI (mm_n m_)) (nI (mm_s m_))))), (7, .int (nI (6 * (10 * a + i) + j))), (5, .int (nI k0)), (0, .ref x), (1, .int (nI a)), (2, .int (nI b)), (3, .int t)]) (v := nI (k + 1)) G 1 dX8_breaksType_158 rfl (nI_1 k) (by decide) rfl rfl ?_
              refine jv_goto (q := 93) G dX8_breaksType_161 (by decide) ?_
              refine jv_lo [0, 1, 2, 3, 4, 5, 6, 7] (lo' := [(8, .int (nI (k + 1))), (4, .int (jv_bI (m_bka (decide (b = a)) A B p k t (nI (mm_n m_)) (nI (mm_s m_))))), (7, .int (nI (6 * (10 * a + i) + j))), (5, .int (nI k0)), (0, .ref x), (1, .int (nI a)), (2, .int (nI b)), (3, .int t)]) rfl ?_
              have e1 : jv_bI (m_bka (decide (b = a)) A B p k t (nI (mm_n m_)) (nI (mm_s m_))) = jv_bI (m_any (m_bkk (decide (b = a)) A B p t m_) (k + 1)) := by
                rw [m_any, c2, Bool.false_or]
                rw [show m_bkk (decide (b = a)) A B p t m_ k = m_bka (decide (b = a)) A B p k t (nI (mm_n m_)) (nI (mm_s m_)) from by unfold m_bkk; simp [*]]
              rw [e1]
              show jv_V E 9 h6 0 0 Q 93 [(8, .int (nI (k + 1))), (4, .int (jv_bI (m_any (m_bkk (decide (b = a)) A B p t m_) (k + 1)))), (7, .int (nI (6 * (10 * a + i) + j))), (5, .int (nI k0)), (0, .ref x), (1, .int (nI a)), (2, .int (nI b)), (3, .int t)] []
              exact ih (k + 1) _ (by omega) hpb
          · refine jv_iconst (q := 126) (v := nI 1) G dX8_breaksType_125 (by decide) rfl ?_
            refine jv_goto (q := 130) G dX8_breaksType_126 (by decide) ?_
            refine jv_icmp_neN (q := 133) (tgt := 158) G dX8_breaksType_130 (by decide) rfl (by omega) (by omega) (fun c9 => ?_) (fun c9 => ?_)
            · refine jv_iinc (q := 161) (lo' := [(8, .int (nI (k + 1))), (4, .int (jv_bI (m_any (m_bkk (decide (b = a)) A B p t m_) k))), (7, .int (nI (6 * (10 * a + i) + j))), (5, .int (nI k0)), (0, .ref x), (1, .int (nI a)), (2, .int (nI b)), (3, .int t)]) (v := nI (k + 1)) G 0 dX8_breaksType_158 rfl (nI_1 k) (by decide) rfl rfl ?_
              refine jv_goto (q := 93) G dX8_breaksType_161 (by decide) ?_
              refine jv_lo [0, 1, 2, 3, 4, 5, 6, 7] (lo' := [(8, .int (nI (k + 1))), (4, .int (jv_bI (m_any (m_bkk (decide (b = a)) A B p t m_) k))), (7, .int (nI (6 * (10 * a + i) + j))), (5, .int (nI k0)), (0, .ref x), (1, .int (nI a)), (2, .int (nI b)), (3, .int t)]) rfl ?_
              have e1 : m_any (m_bkk (decide (b = a)) A B p t m_) k = m_any (m_bkk (decide (b = a)) A B p t m_) (k + 1) := by
                rw [m_any, c2, Bool.false_or]
                rw [show m_bkk (decide (b = a)) A B p t m_ k = false from by unfold m_bkk; rw [show decide (k < 2) = false from decide_eq_false (by omega), c4]; rfl]
              rw [e1]
              show jv_V E 9 h1 0 0 Q 93 [(8, .int (nI (k + 1))), (4, .int (jv_bI (m_any (m_bkk (decide (b = a)) A B p t m_) (k + 1)))), (7, .int (nI (6 * (10 * a + i) + j))), (5, .int (nI k0)), (0, .ref x), (1, .int (nI a)), (2, .int (nI b)), (3, .int t)] []
              exact ih (k + 1) _ (by omega) hpb
            · omega
        · refine jv_iconst (q := 111) (v := nI 1) G dX8_breaksType_110 (by decide) rfl ?_
          refine jv_goto (q := 115) G dX8_breaksType_111 (by decide) ?_
          refine jv_aload_n (q := 116) G 4 dX8_breaksType_115 rfl rfl rfl ?_
          refine jv_getQ (q := 119) G dX8_breaksType_116 fl_X8_44 rfl hS.1 (rf_p13 hS) rfl ?_
          refine jv_iload (q := 121) G 2 dX8_breaksType_119 rfl rfl ?_
          refine jv_iald (q := 122) G dX8_breaksType_121 (rf_a13 hS) rfl (by omega) (by decide) hMm.1 rfl ?_
          refine jv_if_neB (q := 125) (tgt := 129) G dX8_breaksType_122 (by decide) rfl (fun c10 => ?_) (fun c10 => ?_)
          · refine jv_iconst (q := 130) (v := nI 0) G dX8_breaksType_129 (by decide) rfl ?_
            refine jv_icmp_neN (q := 133) (tgt := 158) G dX8_breaksType_130 (by decide) rfl (by omega) (by omega) (fun c11 => ?_) (fun c11 => ?_)
            · refine jv_iinc (q := 161) (lo' := [(8, .int (nI (k + 1))), (4, .int (jv_bI (m_any (m_bkk (decide (b = a)) A B p t m_) k))), (7, .int (nI (6 * (10 * a + i) + j))), (5, .int (nI k0)), (0, .ref x), (1, .int (nI a)), (2, .int (nI b)), (3, .int t)]) (v := nI (k + 1)) G 0 dX8_breaksType_158 rfl (nI_1 k) (by decide) rfl rfl ?_
              refine jv_goto (q := 93) G dX8_breaksType_161 (by decide) ?_
              refine jv_lo [0, 1, 2, 3, 4, 5, 6, 7] (lo' := [(8, .int (nI (k + 1))), (4, .int (jv_bI (m_any (m_bkk (decide (b = a)) A B p t m_) k))), (7, .int (nI (6 * (10 * a + i) + j))), (5, .int (nI k0)), (0, .ref x), (1, .int (nI a)), (2, .int (nI b)), (3, .int t)]) rfl ?_
              have e1 : m_any (m_bkk (decide (b = a)) A B p t m_) k = m_any (m_bkk (decide (b = a)) A B p t m_) (k + 1) := by
                rw [m_any, c2, Bool.false_or]
                rw [show m_bkk (decide (b = a)) A B p t m_ k = false from by unfold m_bkk; rw [show decide (k < 2) = true from decide_eq_true (by omega), c10]; rfl]
              rw [e1]
              show jv_V E 9 h1 0 0 Q 93 [(8, .int (nI (k + 1))), (4, .int (jv_bI (m_any (m_bkk (decide (b = a)) A B p t m_) (k + 1)))), (7, .int (nI (6 * (10 * a + i) + j))), (5, .int (nI k0)), (0, .ref x), (1, .int (nI a)), (2, .int (nI b)), (3, .int t)] []
              exact ih (k + 1) _ (by omega) hpb
            · omega
          · refine jv_iconst (q := 126) (v := nI 1) G dX8_breaksType_125 (by decide) rfl ?_
            refine jv_goto (q := 130) G dX8_breaksType_126 (by decide) ?_
            refine jv_icmp_neN (q := 133) (tgt := 158) G dX8_breaksType_130 (by decide) rfl (by omega) (by omega) (fun c12 => ?_) (fun c12 => ?_)
            · omega
            · refine jv_aload_n (q := 134) G 4 dX8_breaksType_133 rfl rfl rfl ?_
              refine jv_iload_n (q := 135) G 5 dX8_breaksType_134 rfl rfl rfl ?_
              refine jv_iload_n (q := 136) G 6 dX8_breaksType_135 rfl rfl rfl ?_
              refine jv_iload (q := 138) G 0 dX8_breaksType_136 rfl rfl ?_
              refine jv_iload_n (q := 139) G 7 dX8_breaksType_138 rfl rfl rfl ?_
              refine jv_aload_n (q := 140) G 4 dX8_breaksType_139 rfl rfl rfl ?_
              refine jv_getQ (q := 143) G dX8_breaksType_140 fl_X8_47 rfl hS.1 (rf_p14 hS) rfl ?_
              refine jv_iload (q := 145) G 2 dX8_breaksType_143 rfl rfl ?_
              refine jv_iald (q := 146) G dX8_breaksType_145 (rf_a14 hS) rfl (by omega) (by decide) hMm.2.1 rfl ?_
              refine jv_aload_n (q := 147) G 4 dX8_breaksType_146 rfl rfl rfl ?_
              refine jv_getQ (q := 150) G dX8_breaksType_147 fl_X8_50 rfl hS.1 (rf_p15 hS) rfl ?_
              refine jv_iload (q := 152) G 2 dX8_breaksType_150 rfl rfl ?_
              refine jv_iald (q := 153) G dX8_breaksType_152 (rf_a15 hS) rfl (by omega) (by decide) hMm.2.2.1 rfl ?_
              refine jv_callV (q := 156) (As := [.int (nI a), .int (nI b), .int (nI k), .int t, .int (nI (mm_n m_)), .int (nI (mm_s m_))]) (rest := []) G Z ml_X8_255 (r_breaksAny hlt hS0 ha hb hp hEA hEB hVA hVB gA gB (by omega) hpb) hS.1 dX8_breaksType_153 rfl (by decide) (by decide) (by decide) (by decide) (Nat.le_of_ble_eq_true rfl) rfl rfl (fun v14 h13 y15 => ?_) (fun _ _ hx => hx.elim)
              obtain ⟨rfl, hpb⟩ := y15
              show jv_V E 9 h13 0 0 Q 156 [(8, .int (nI k)), (4, .int (jv_bI (m_any (m_bkk (decide (b = a)) A B p t m_) k))), (7, .int (nI (6 * (10 * a + i) + j))), (5, .int (nI k0)), (0, .ref x), (1, .int (nI a)), (2, .int (nI b)), (3, .int t)] [.int (jv_bI (m_bka (decide (b = a)) A B p k t (nI (mm_n m_)) (nI (mm_s m_))))]
              clear hrs hce hpk hsu hx0 hS hEA1 hEB1 hVA1 hVB1
              obtain ⟨hrs, hce, hpk, hsu, hx0⟩ := id hpb
              have hS := hrs.S hS0
              have hEA1 := hrs.E hS0 hEA; have hEB1 := hrs.E hS0 hEB; have hVA1 := hrs.V hS0 hVA; have hVB1 := hrs.V hS0 hVB
              have hla := hEA.2.1
              refine jv_istore (q := 158) (lo' := [(4, .int (jv_bI (m_bka (decide (b = a)) A B p k t (nI (mm_n m_)) (nI (mm_s m_))))), (8, .int (nI k)), (7, .int (nI (6 * (10 * a + i) + j))), (5, .int (nI k0)), (0, .ref x), (1, .int (nI a)), (2, .int (nI b)), (3, .int t)]) G dX8_breaksType_156 (by decide) rfl rfl ?_
              refine jv_iinc (q := 161) (lo' := [(8, .int (nI (k + 1))), (4, .int (jv_bI (m_bka (decide (b = a)) A B p k t (nI (mm_n m_)) (nI (mm_s m_))))), (7, .int (nI (6 * (10 * a + i) + j))), (5, .int (nI k0)), (0, .ref x), (1, .int (nI a)), (2, .int (nI b)), (3, .int t)]) (v := nI (k + 1)) G 1 dX8_breaksType_158 rfl (nI_1 k) (by decide) rfl rfl ?_
              refine jv_goto (q := 93) G dX8_breaksType_161 (by decide) ?_
              refine jv_lo [0, 1, 2, 3, 4, 5, 6, 7] (lo' := [(8, .int (nI (k + 1))), (4, .int (jv_bI (m_bka (decide (b = a)) A B p k t (nI (mm_n m_)) (nI (mm_s m_))))), (7, .int (nI (6 * (10 * a + i) + j))), (5, .int (nI k0)), (0, .ref x), (1, .int (nI a)), (2, .int (nI b)), (3, .int t)]) rfl ?_
              have e1 : jv_bI (m_bka (decide (b = a)) A B p k t (nI (mm_n m_)) (nI (mm_s m_))) = jv_bI (m_any (m_bkk (decide (b = a)) A B p t m_) (k + 1)) := by
                rw [m_any, c2, Bool.false_or]
                rw [show m_bkk (decide (b = a)) A B p t m_ k = m_bka (decide (b = a)) A B p k t (nI (mm_n m_)) (nI (mm_s m_)) from by unfold m_bkk; simp [*]]
              rw [e1]
              show jv_V E 9 h13 0 0 Q 93 [(8, .int (nI (k + 1))), (4, .int (jv_bI (m_any (m_bkk (decide (b = a)) A B p t m_) (k + 1)))), (7, .int (nI (6 * (10 * a + i) + j))), (5, .int (nI k0)), (0, .ref x), (1, .int (nI a)), (2, .int (nI b)), (3, .int t)] []
              exact ih (k + 1) _ (by omega) hpb
set_option maxHeartbeats 4000000 in
set_option maxRecDepth 100000 in
theorem r_bkm {E : jv_E} {Q : State → Prop} {x : Nat} {q : Nat → Nat} {h0 : jv_H} {a b p : Nat} {A B : List mT} (hS0 : rf_S x q h0) (ha : a < 8) (hb : b < 8) (hp : p < 5) (hEA : rf_E q h0 a A) (hEB : rf_E q h0 b B) (hVA : rf_V q h0 a A) (hVB : rf_V q h0 b B) (gA : ∀ k, k < A.length → m_hg A 11 k) (gB : ∀ k, k < B.length → m_hg B 11 k) {t : Int32} (hlt : (jv_l E).stackTraces = false) (G : jv_C E cX8_breaksType RX8 9) (Z : jv_rm E = jv_room 18 0 0) (hK : ∀ h2, pb x q a p h0 h2 → jv_V E 9 h2 0 0 Q 170 [(4, .int (jv_bI (m_any (m_bkm (decide (b = a)) A B p t) 60)))] []) : ∀ (m k : Nat) (h1 : jv_H), k + m = 60 → pb x q a p h0 h1 → jv_V E 9 h1 0 0 Q 21 [(5, .int (nI k)), (4, .int (jv_bI (m_any (m_bkm (decide (b = a)) A B p t) k))), (0, .ref x), (1, .int (nI a)), (2, .int (nI b)), (3, .int t)] [] := by
  intro m
  induction m with
  | zero =>
    intro k h1 hm hpb
    obtain ⟨hrs, hce, hpk, hsu, hx0⟩ := id hpb
    have hS := hrs.S hS0
    have hEA1 := hrs.E hS0 hEA; have hEB1 := hrs.E hS0 hEB; have hVA1 := hrs.V hS0 hVA; have hVB1 := hrs.V hS0 hVB
    have hla := hEA.2.1
    refine jv_iload (q := 23) G 0 dX8_breaksType_21 rfl rfl ?_
    refine jv_bipush (q := 25) (v := nI 60) G dX8_breaksType_23 (by decide) rfl ?_
    refine jv_icmp_geN (q := 28) (tgt := 170) G dX8_breaksType_25 (by decide) rfl (by omega) (by omega) (fun c1 => ?_) (fun c1 => ?_)
    · refine jv_lo [1] (lo' := [(4, .int (jv_bI (m_any (m_bkm (decide (b = a)) A B p t) k)))]) rfl ?_
      rw [show k = 60 by omega]; exact hK _ hpb
    · omega
  | succ m ih =>
    intro k h1 hm hpb
    obtain ⟨hrs, hce, hpk, hsu, hx0⟩ := id hpb
    have hS := hrs.S hS0
    have hEA1 := hrs.E hS0 hEA; have hEB1 := hrs.E hS0 hEB; have hVA1 := hrs.V hS0 hVA; have hVB1 := hrs.V hS0 hVB
    have hla := hEA.2.1
    refine jv_iload (q := 23) G 0 dX8_breaksType_21 rfl rfl ?_
    refine jv_bipush (q := 25) (v := nI 60) G dX8_breaksType_23 (by decide) rfl ?_
    refine jv_icmp_geN (q := 28) (tgt := 170) G dX8_breaksType_25 (by decide) rfl (by omega) (by omega) (fun c1 => ?_) (fun c1 => ?_)
    · omega
    · refine jv_iload (q := 30) G 1 dX8_breaksType_28 rfl rfl ?_
      refine jv_if_neB (q := 33) (tgt := 170) G dX8_breaksType_30 (by decide) rfl (fun c2 => ?_) (fun c2 => ?_)
      · refine jv_lo [1] (lo' := [(4, .int (jv_bI (m_any (m_bkm (decide (b = a)) A B p t) k)))]) rfl ?_
        have e1 : m_any (m_bkm (decide (b = a)) A B p t) k = m_any (m_bkm (decide (b = a)) A B p t) 60 := by
          rw [c2, ← hm, any_m c2]
        rw [e1]; exact hK _ hpb
      · refine jv_bipush (q := 35) (v := nI 10) G dX8_breaksType_33 (by decide) rfl ?_
        refine jv_iload_n (q := 36) G 3 dX8_breaksType_35 rfl rfl rfl ?_
        refine jv_imulN (q := 37) G dX8_breaksType_36 rfl ?_
        refine jv_iload (q := 39) G 0 dX8_breaksType_37 rfl rfl ?_
        refine jv_bipush (q := 41) (v := nI 6) G dX8_breaksType_39 (by decide) rfl ?_
        refine jv_idivN (q := 42) G dX8_breaksType_41 (by omega) (by omega) (by omega) rfl ?_
        refine jv_iaddN (q := 43) G dX8_breaksType_42 rfl ?_
        refine jv_istore (q := 45) (lo' := [(6, .int (nI ((10 * a) + (k / 6)))), (5, .int (nI k)), (4, .int (jv_bI (m_any (m_bkm (decide (b = a)) A B p t) k))), (0, .ref x), (1, .int (nI a)), (2, .int (nI b)), (3, .int t)]) G dX8_breaksType_43 (by decide) rfl rfl ?_
        refine jv_iload (q := 47) G 1 dX8_breaksType_45 rfl rfl ?_
        refine jv_bipush (q := 49) (v := nI 6) G dX8_breaksType_47 (by decide) rfl ?_
        refine jv_idivN (q := 50) G dX8_breaksType_49 (by omega) (by omega) (by omega) rfl ?_
        refine jv_aload_n (q := 51) G 3 dX8_breaksType_50 rfl rfl rfl ?_
        refine jv_getQ (q := 54) G dX8_breaksType_51 fl_X8_13 rfl hS.1 (rf_p3 hS) rfl ?_
        refine jv_iload_n (q := 55) G 4 dX8_breaksType_54 rfl rfl rfl ?_
        refine jv_iald (q := 56) G dX8_breaksType_55 (rf_a3 hS) rfl (by omega) (by decide) hEA1.1 rfl ?_
        refine jv_icmp_geN (q := 59) (tgt := 164) G dX8_breaksType_56 (by decide) rfl (by omega) (by omega) (fun c3 => ?_) (fun c3 => ?_)
        · refine jv_iinc (q := 167) (lo' := [(5, .int (nI (k + 1))), (6, .int (nI ((10 * a) + (k / 6)))), (4, .int (jv_bI (m_any (m_bkm (decide (b = a)) A B p t) k))), (0, .ref x), (1, .int (nI a)), (2, .int (nI b)), (3, .int t)]) (v := nI (k + 1)) G 1 dX8_breaksType_164 rfl (nI_1 k) (by decide) rfl rfl ?_
          refine jv_goto (q := 21) G dX8_breaksType_167 (by decide) ?_
          refine jv_lo [0, 2, 3, 4, 5, 6] (lo' := [(5, .int (nI (k + 1))), (4, .int (jv_bI (m_any (m_bkm (decide (b = a)) A B p t) k))), (0, .ref x), (1, .int (nI a)), (2, .int (nI b)), (3, .int t)]) rfl ?_
          have e1 : m_any (m_bkm (decide (b = a)) A B p t) k = m_any (m_bkm (decide (b = a)) A B p t) (k + 1) := by
            rw [show m_any (m_bkm (decide (b = a)) A B p t) (k + 1) = (m_any (m_bkm (decide (b = a)) A B p t) k || m_bkm (decide (b = a)) A B p t k) from rfl, c2, Bool.false_or, show m_bkm (decide (b = a)) A B p t k = false from by unfold m_bkm; rw [List.getElem?_eq_none (by omega)]; rfl]
          rw [e1]
          show jv_V E 9 h1 0 0 Q 21 [(5, .int (nI (k + 1))), (4, .int (jv_bI (m_any (m_bkm (decide (b = a)) A B p t) (k + 1)))), (0, .ref x), (1, .int (nI a)), (2, .int (nI b)), (3, .int t)] []
          exact ih (k + 1) _ (by omega) hpb
        · obtain ⟨y, hy⟩ := jv_getLt (l := A) (k := k / 6) (by omega)
          have hT := (hEA1.2.2 (k / 6) y hy).1
          have hl6 := (hEA.2.2 (k / 6) y hy).2.2.2.2.2.2.1
          refine jv_iload (q := 61) G 1 dX8_breaksType_59 rfl rfl ?_
          refine jv_bipush (q := 63) (v := nI 6) G dX8_breaksType_61 (by decide) rfl ?_
          refine jv_iremN (q := 64) G dX8_breaksType_63 (by omega) (by omega) (by omega) rfl ?_
          refine jv_aload_n (q := 65) G 3 dX8_breaksType_64 rfl rfl rfl ?_
          refine jv_getQ (q := 68) G dX8_breaksType_65 fl_X8_41 rfl hS.1 (rf_p12 hS) rfl ?_
          refine jv_iload (q := 70) G 0 dX8_breaksType_68 rfl rfl ?_
          refine jv_iald (q := 71) G dX8_breaksType_70 (rf_a12 hS) rfl (by omega) (by decide) (rt_12 hT) rfl ?_
          refine jv_icmp_ltN (q := 74) (tgt := 77) G dX8_breaksType_71 (by decide) rfl (by omega) (by omega) (fun c4 => ?_) (fun c4 => ?_)
          · refine jv_bipush (q := 79) (v := nI 6) G dX8_breaksType_77 (by decide) rfl ?_
            refine jv_iload (q := 81) G 0 dX8_breaksType_79 rfl rfl ?_
            refine jv_imulN (q := 82) G dX8_breaksType_81 rfl ?_
            refine jv_iload (q := 84) G 1 dX8_breaksType_82 rfl rfl ?_
            refine jv_bipush (q := 86) (v := nI 6) G dX8_breaksType_84 (by decide) rfl ?_
            refine jv_iremN (q := 87) G dX8_breaksType_86 (by omega) (by omega) (by omega) rfl ?_
            refine jv_iaddN (q := 88) G dX8_breaksType_87 rfl ?_
            refine jv_istore (q := 90) (lo' := [(7, .int (nI ((6 * ((10 * a) + (k / 6))) + (k % 6)))), (6, .int (nI ((10 * a) + (k / 6)))), (5, .int (nI k)), (4, .int (jv_bI (m_any (m_bkm (decide (b = a)) A B p t) k))), (0, .ref x), (1, .int (nI a)), (2, .int (nI b)), (3, .int t)]) G dX8_breaksType_88 (by decide) rfl rfl ?_
            refine jv_iconst (q := 91) (v := nI 0) G dX8_breaksType_90 (by decide) rfl ?_
            refine jv_istore (q := 93) (lo' := [(8, .int (nI 0)), (7, .int (nI ((6 * ((10 * a) + (k / 6))) + (k % 6)))), (6, .int (nI ((10 * a) + (k / 6)))), (5, .int (nI k)), (4, .int (jv_bI (m_any (m_bkm (decide (b = a)) A B p t) k))), (0, .ref x), (1, .int (nI a)), (2, .int (nI b)), (3, .int t)]) G dX8_breaksType_91 (by decide) rfl rfl ?_
            obtain ⟨m_, hm_⟩ := jv_getLt (l := mt_m y) (k := k % 6) (by omega)
            refine jv_lo [0, 4, 1, 3, 5, 6, 7, 8] (lo' := [(8, .int (nI 0)), (4, .int (jv_bI (m_any (m_bkm (decide (b = a)) A B p t) k))), (7, .int (nI ((6 * ((10 * a) + (k / 6))) + (k % 6)))), (5, .int (nI k)), (0, .ref x), (1, .int (nI a)), (2, .int (nI b)), (3, .int t)]) rfl ?_
            have e0 : m_any (m_bkm (decide (b = a)) A B p t) k = m_any (m_bkk (decide (b = a)) A B p t m_) 0 := c2
            rw [e0]
            refine r_bkk hS0 ha hb hp hEA hEB hVA hVB gA gB hy hm_ hlt G Z (fun h2 hpb2 => ?_) 5 0 _ (by omega) hpb
            refine jv_iinc (q := 167) (lo' := [(5, .int (nI (k + 1))), (4, .int (jv_bI (m_any (m_bkk (decide (b = a)) A B p t m_) 5))), (0, .ref x), (1, .int (nI a)), (2, .int (nI b)), (3, .int t)]) (v := nI (k + 1)) G 1 dX8_breaksType_164 rfl (nI_1 k) (by decide) rfl rfl ?_
            refine jv_goto (q := 21) G dX8_breaksType_167 (by decide) ?_
            refine jv_lo [0, 1, 2, 3, 4, 5] (lo' := [(5, .int (nI (k + 1))), (4, .int (jv_bI (m_any (m_bkk (decide (b = a)) A B p t m_) 5))), (0, .ref x), (1, .int (nI a)), (2, .int (nI b)), (3, .int t)]) rfl ?_
            have e1 : m_any (m_bkk (decide (b = a)) A B p t m_) 5 = m_any (m_bkm (decide (b = a)) A B p t) (k + 1) := by
              rw [show m_any (m_bkm (decide (b = a)) A B p t) (k + 1) = (m_any (m_bkm (decide (b = a)) A B p t) k || m_bkm (decide (b = a)) A B p t k) from rfl, c2, Bool.false_or, show m_bkm (decide (b = a)) A B p t k = m_any (m_bkk (decide (b = a)) A B p t m_) 5 from by unfold m_bkm; rw [hy]; dsimp only [Option.any_some]; rw [hm_]; rfl]
            rw [e1]
            show jv_V E 9 h2 0 0 Q 21 [(5, .int (nI (k + 1))), (4, .int (jv_bI (m_any (m_bkm (decide (b = a)) A B p t) (k + 1)))), (0, .ref x), (1, .int (nI a)), (2, .int (nI b)), (3, .int t)] []
            exact ih (k + 1) _ (by omega) hpb2
          · refine jv_goto (q := 164) G dX8_breaksType_74 (by decide) ?_
            refine jv_iinc (q := 167) (lo' := [(5, .int (nI (k + 1))), (6, .int (nI ((10 * a) + (k / 6)))), (4, .int (jv_bI (m_any (m_bkm (decide (b = a)) A B p t) k))), (0, .ref x), (1, .int (nI a)), (2, .int (nI b)), (3, .int t)]) (v := nI (k + 1)) G 1 dX8_breaksType_164 rfl (nI_1 k) (by decide) rfl rfl ?_
            refine jv_goto (q := 21) G dX8_breaksType_167 (by decide) ?_
            refine jv_lo [0, 2, 3, 4, 5, 6] (lo' := [(5, .int (nI (k + 1))), (4, .int (jv_bI (m_any (m_bkm (decide (b = a)) A B p t) k))), (0, .ref x), (1, .int (nI a)), (2, .int (nI b)), (3, .int t)]) rfl ?_
            have e1 : m_any (m_bkm (decide (b = a)) A B p t) k = m_any (m_bkm (decide (b = a)) A B p t) (k + 1) := by
              rw [show m_any (m_bkm (decide (b = a)) A B p t) (k + 1) = (m_any (m_bkm (decide (b = a)) A B p t) k || m_bkm (decide (b = a)) A B p t k) from rfl, c2, Bool.false_or, show m_bkm (decide (b = a)) A B p t k = false from by unfold m_bkm; rw [hy]; dsimp only [Option.any_some]; rw [List.getElem?_eq_none (by omega)]; rfl]
            rw [e1]
            show jv_V E 9 h1 0 0 Q 21 [(5, .int (nI (k + 1))), (4, .int (jv_bI (m_any (m_bkm (decide (b = a)) A B p t) (k + 1)))), (0, .ref x), (1, .int (nI a)), (2, .int (nI b)), (3, .int t)] []
            exact ih (k + 1) _ (by omega) hpb
set_option maxHeartbeats 4000000 in
set_option maxRecDepth 100000 in
theorem r_breaksType {lA : Launch} (hlt : lA.stackTraces = false) {D : jv_D} {base : Nat} {x : Nat} {q : Nat → Nat} {h0 h : jv_H} {a b p : Nat} {A B : List mT} (hS0 : rf_S x q h0) (ha : a < 8) (hb : b < 8) (hp : p < 5) (hEA : rf_E q h0 a A) (hEB : rf_E q h0 b B) (hVA : rf_V q h0 a A) (hVB : rf_V q h0 b B) (gA : ∀ k, k < A.length → m_hg A 11 k) (gB : ∀ k, k < B.length → m_hg B 11 k) {t : Int32} (hpb : pb x q a p h0 h) : jv_Met lA D base yX8_breaksType (.code yX8_breaksType cX8_breaksType 9 (some .boolean)) 18 0 0 [.ref x, .int (nI a), .int (nI b), .int t] h (fun v h' => v = some (.int (jv_bI (m_bkt (decide (b = a)) A B p t))) ∧ pb x q a p h0 h') jv_no := by
  refine jv_ofV (lo := [(0, .ref x), (1, .int (nI a)), (2, .int (nI b)), (3, .int t)]) hlt (by decide) (Nat.le_of_ble_eq_true rfl) rfl (fun E hEl hEd hEz Z G hr ht hnm => ?_)
  subst hEl; subst hEd; subst hEz
  obtain ⟨hrs, hce, hpk, hsu, hx0⟩ := id hpb
  have hS := hrs.S hS0
  have hEA1 := hrs.E hS0 hEA; have hEB1 := hrs.E hS0 hEB; have hVA1 := hrs.V hS0 hVA; have hVB1 := hrs.V hS0 hVB
  have hla := hEA.2.1
  refine jv_aload_n (q := 1) G 0 dX8_breaksType_0 rfl rfl rfl ?_
  refine jv_iload_n (q := 2) G 2 dX8_breaksType_1 rfl rfl rfl ?_
  refine jv_iconst (q := 3) (v := nI 5) G dX8_breaksType_2 (by decide) rfl ?_
  refine jv_iload_n (q := 4) G 3 dX8_breaksType_3 rfl rfl rfl ?_
  refine jv_iconst (q := 5) (v := nI 0) G dX8_breaksType_4 (by decide) rfl ?_
  refine jv_iconst (q := 6) (v := nI 0) G dX8_breaksType_5 (by decide) rfl ?_
  refine jv_iconst (q := 7) (v := (-1)) G dX8_breaksType_6 (by decide) rfl ?_
  refine jv_callV (q := 10) (As := [.int (nI b), .int (nI 5), .int t, .int (nI 0), .int (nI 0), .int (-1)]) (rest := []) G Z ml_X8_248 (r_breaks hlt hS0 ha hb hp hEA hEB hVA hVB gA gB (by omega) hpb) hS.1 dX8_breaksType_7 rfl (by decide) (by decide) (by decide) (by decide) (Nat.le_of_ble_eq_true rfl) rfl rfl (fun v2 h1 y3 => ?_) (fun _ _ hx => hx.elim)
  obtain ⟨rfl, hpb⟩ := y3
  show jv_V E 9 h1 0 0 (jv_Q E (fun v h' => v = some (.int (jv_bI (m_bkt (decide (b = a)) A B p t))) ∧ pb x q a p h0 h') jv_no 0 0) 10 [(0, .ref x), (1, .int (nI a)), (2, .int (nI b)), (3, .int t)] [.int (jv_bI (m_brk (decide (b = a)) A B p 5 t (nI 0) (nI 0) (-1)))]
  clear hrs hce hpk hsu hx0 hS hEA1 hEB1 hVA1 hVB1
  obtain ⟨hrs, hce, hpk, hsu, hx0⟩ := id hpb
  have hS := hrs.S hS0
  have hEA1 := hrs.E hS0 hEA; have hEB1 := hrs.E hS0 hEB; have hVA1 := hrs.V hS0 hVA; have hVB1 := hrs.V hS0 hVB
  have hla := hEA.2.1
  refine jv_if_eqB (q := 13) (tgt := 15) G dX8_breaksType_10 (by decide) rfl (fun c4 => ?_) (fun c4 => ?_)
  · refine jv_iconst (q := 16) (v := nI 0) G dX8_breaksType_15 (by decide) rfl ?_
    refine jv_istore (q := 18) (lo' := [(4, .int (nI 0)), (0, .ref x), (1, .int (nI a)), (2, .int (nI b)), (3, .int t)]) G dX8_breaksType_16 (by decide) rfl rfl ?_
    refine jv_iconst (q := 19) (v := nI 0) G dX8_breaksType_18 (by decide) rfl ?_
    refine jv_istore (q := 21) (lo' := [(5, .int (nI 0)), (4, .int (nI 0)), (0, .ref x), (1, .int (nI a)), (2, .int (nI b)), (3, .int t)]) G dX8_breaksType_19 (by decide) rfl rfl ?_
    refine jv_lo [0, 1, 2, 3, 4, 5] (lo' := [(5, .int (nI 0)), (4, .int (nI 0)), (0, .ref x), (1, .int (nI a)), (2, .int (nI b)), (3, .int t)]) rfl ?_
    show jv_V E 9 h1 0 0 (jv_Q E (fun v h' => v = some (.int (jv_bI (m_bkt (decide (b = a)) A B p t))) ∧ pb x q a p h0 h') jv_no 0 0) 21 [(5, .int (nI 0)), (4, .int (jv_bI (m_any (m_bkm (decide (b = a)) A B p t) 0))), (0, .ref x), (1, .int (nI a)), (2, .int (nI b)), (3, .int t)] []
    refine r_bkm hS0 ha hb hp hEA hEB hVA hVB gA gB hlt G Z (fun h2 hpb2 => ?_) 60 0 _ (by omega) hpb
    refine jv_iload (q := 172) G 0 dX8_breaksType_170 rfl rfl ?_
    refine jv_zret G hr dX8_breaksType_172 (Nat.le_of_ble_eq_true rfl) (Nat.le_of_ble_eq_true rfl) ?_
    refine ⟨?_, hpb2⟩
    unfold m_bkt
    rw [c4, Bool.false_or]
  · refine jv_iconst (q := 14) (v := nI 1) G dX8_breaksType_13 (by decide) rfl ?_
    refine jv_topI (y := jv_bI true) rfl ?_
    refine jv_zret G hr dX8_breaksType_14 (Nat.le_of_ble_eq_true rfl) (Nat.le_of_ble_eq_true rfl) ?_
    refine ⟨?_, hpb⟩
    unfold m_bkt
    rw [c4]; rfl
set_option maxHeartbeats 4000000 in
set_option maxRecDepth 100000 in
theorem r_bky {E : jv_E} {Q : State → Prop} {x : Nat} {q : Nat → Nat} {h0 : jv_H} {a b p : Nat} {A B : List mT} (hS0 : rf_S x q h0) (ha : a < 8) (hb : b < 8) (hp : p < 5) (hEA : rf_E q h0 a A) (hEB : rf_E q h0 b B) (hVA : rf_V q h0 a A) (hVB : rf_V q h0 b B) (gA : ∀ k, k < A.length → m_hg A 11 k) (gB : ∀ k, k < B.length → m_hg B 11 k)  (hlt : (jv_l E).stackTraces = false) (G : jv_C E cX8_compatible RX8 6) (Z : jv_rm E = jv_room 19 0 0) (hK : ∀ h2, pb x q a p h0 h2 → jv_V E 6 h2 0 0 Q 105 [(3, .int (jv_bI (m_any (m_bky (decide (b = a)) A B p) A.length))), (4, .int (nI p)), (0, .ref x), (1, .int (nI a)), (2, .int (nI b))] []) : ∀ (m k : Nat) (h1 : jv_H), k + m = A.length → pb x q a p h0 h1 → jv_V E 6 h1 0 0 Q 65 [(5, .int (nI (10 * a + k))), (3, .int (jv_bI (m_any (m_bky (decide (b = a)) A B p) k))), (4, .int (nI p)), (0, .ref x), (1, .int (nI a)), (2, .int (nI b))] [] := by
  intro m
  induction m with
  | zero =>
    intro k h1 hm hpb
    obtain ⟨hrs, hce, hpk, hsu, hx0⟩ := id hpb
    have hS := hrs.S hS0
    have hEA1 := hrs.E hS0 hEA; have hEB1 := hrs.E hS0 hEB; have hVA1 := hrs.V hS0 hVA; have hVB1 := hrs.V hS0 hVB
    have hla := hEA.2.1
    refine jv_iload (q := 67) G 0 dX8_compatible_65 rfl rfl ?_
    refine jv_bipush (q := 69) (v := nI 10) G dX8_compatible_67 (by decide) rfl ?_
    refine jv_iload_n (q := 70) G 4 dX8_compatible_69 rfl rfl rfl ?_
    refine jv_imulN (q := 71) G dX8_compatible_70 rfl ?_
    refine jv_aload_n (q := 72) G 3 dX8_compatible_71 rfl rfl rfl ?_
    refine jv_getQ (q := 75) G dX8_compatible_72 fl_X8_13 rfl hS.1 (rf_p3 hS) rfl ?_
    refine jv_iload_n (q := 76) G 4 dX8_compatible_75 rfl rfl rfl ?_
    refine jv_iald (q := 77) G dX8_compatible_76 (rf_a3 hS) rfl (by omega) (by decide) hEA1.1 rfl ?_
    refine jv_iaddN (q := 78) G dX8_compatible_77 rfl ?_
    refine jv_icmp_geN (q := 81) (tgt := 105) G dX8_compatible_78 (by decide) rfl (by omega) (by omega) (fun c1 => ?_) (fun c1 => ?_)
    · refine jv_lo [1, 2, 3, 4, 5] (lo' := [(3, .int (jv_bI (m_any (m_bky (decide (b = a)) A B p) k))), (4, .int (nI p)), (0, .ref x), (1, .int (nI a)), (2, .int (nI b))]) rfl ?_
      rw [show k = A.length by omega]; exact hK _ hpb
    · omega
  | succ m ih =>
    intro k h1 hm hpb
    obtain ⟨hrs, hce, hpk, hsu, hx0⟩ := id hpb
    have hS := hrs.S hS0
    have hEA1 := hrs.E hS0 hEA; have hEB1 := hrs.E hS0 hEB; have hVA1 := hrs.V hS0 hVA; have hVB1 := hrs.V hS0 hVB
    have hla := hEA.2.1
    obtain ⟨y, hy⟩ := jv_getLt (l := A) (k := k) (by omega)
    have hT := (hEA1.2.2 k y hy).1
    refine jv_iload (q := 67) G 0 dX8_compatible_65 rfl rfl ?_
    refine jv_bipush (q := 69) (v := nI 10) G dX8_compatible_67 (by decide) rfl ?_
    refine jv_iload_n (q := 70) G 4 dX8_compatible_69 rfl rfl rfl ?_
    refine jv_imulN (q := 71) G dX8_compatible_70 rfl ?_
    refine jv_aload_n (q := 72) G 3 dX8_compatible_71 rfl rfl rfl ?_
    refine jv_getQ (q := 75) G dX8_compatible_72 fl_X8_13 rfl hS.1 (rf_p3 hS) rfl ?_
    refine jv_iload_n (q := 76) G 4 dX8_compatible_75 rfl rfl rfl ?_
    refine jv_iald (q := 77) G dX8_compatible_76 (rf_a3 hS) rfl (by omega) (by decide) hEA1.1 rfl ?_
    refine jv_iaddN (q := 78) G dX8_compatible_77 rfl ?_
    refine jv_icmp_geN (q := 81) (tgt := 105) G dX8_compatible_78 (by decide) rfl (by omega) (by omega) (fun c1 => ?_) (fun c1 => ?_)
    · omega
    · refine jv_iload_n (q := 82) G 1 dX8_compatible_81 rfl rfl rfl ?_
      refine jv_if_neB (q := 85) (tgt := 105) G dX8_compatible_82 (by decide) rfl (fun c2 => ?_) (fun c2 => ?_)
      · refine jv_lo [1, 2, 3, 4, 5] (lo' := [(3, .int (jv_bI (m_any (m_bky (decide (b = a)) A B p) k))), (4, .int (nI p)), (0, .ref x), (1, .int (nI a)), (2, .int (nI b))]) rfl ?_
        have e1 : m_any (m_bky (decide (b = a)) A B p) k = m_any (m_bky (decide (b = a)) A B p) A.length := by
          rw [c2, ← hm, any_m c2]
        rw [e1]; exact hK _ hpb
      · refine jv_aload_n (q := 86) G 3 dX8_compatible_85 rfl rfl rfl ?_
        refine jv_iload_n (q := 87) G 4 dX8_compatible_86 rfl rfl rfl ?_
        refine jv_iload_n (q := 88) G 5 dX8_compatible_87 rfl rfl rfl ?_
        refine jv_aload_n (q := 89) G 3 dX8_compatible_88 rfl rfl rfl ?_
        refine jv_getQ (q := 92) G dX8_compatible_89 fl_X8_17 rfl hS.1 (rf_p4 hS) rfl ?_
        refine jv_iload (q := 94) G 0 dX8_compatible_92 rfl rfl ?_
        refine jv_iald (q := 95) G dX8_compatible_94 (rf_a4 hS) rfl (by omega) (by decide) (rt_4 hT) rfl ?_
        refine jv_callV (q := 98) (As := [.int (nI a), .int (nI b), .int (nI (mt_n y))]) (rest := []) G Z ml_X8_252 (r_breaksType hlt hS0 ha hb hp hEA hEB hVA hVB gA gB hpb) hS.1 dX8_compatible_95 rfl (by decide) (by decide) (by decide) (by decide) (Nat.le_of_ble_eq_true rfl) rfl rfl (fun v4 h3 y5 => ?_) (fun _ _ hx => hx.elim)
        obtain ⟨rfl, hpb⟩ := y5
        show jv_V E 6 h3 0 0 Q 98 [(5, .int (nI (10 * a + k))), (3, .int (jv_bI (m_any (m_bky (decide (b = a)) A B p) k))), (4, .int (nI p)), (0, .ref x), (1, .int (nI a)), (2, .int (nI b))] [.int (jv_bI (m_bkt (decide (b = a)) A B p (nI (mt_n y))))]
        clear hrs hce hpk hsu hx0 hS hEA1 hEB1 hVA1 hVB1
        obtain ⟨hrs, hce, hpk, hsu, hx0⟩ := id hpb
        have hS := hrs.S hS0
        have hEA1 := hrs.E hS0 hEA; have hEB1 := hrs.E hS0 hEB; have hVA1 := hrs.V hS0 hVA; have hVB1 := hrs.V hS0 hVB
        have hla := hEA.2.1
        refine jv_istore_n (q := 99) (lo' := [(3, .int (jv_bI (m_bkt (decide (b = a)) A B p (nI (mt_n y))))), (5, .int (nI (10 * a + k))), (4, .int (nI p)), (0, .ref x), (1, .int (nI a)), (2, .int (nI b))]) G dX8_compatible_98 rfl (by decide) rfl rfl ?_
        refine jv_iinc (q := 102) (lo' := [(5, .int (nI (10 * a + k + 1))), (3, .int (jv_bI (m_bkt (decide (b = a)) A B p (nI (mt_n y))))), (4, .int (nI p)), (0, .ref x), (1, .int (nI a)), (2, .int (nI b))]) (v := nI (10 * a + k + 1)) G 1 dX8_compatible_99 rfl (nI_1 (10 * a + k)) (by decide) rfl rfl ?_
        refine jv_goto (q := 65) G dX8_compatible_102 (by decide) ?_
        refine jv_lo [0, 1, 2, 3, 4, 5] (lo' := [(5, .int (nI (10 * a + k + 1))), (3, .int (jv_bI (m_bkt (decide (b = a)) A B p (nI (mt_n y))))), (4, .int (nI p)), (0, .ref x), (1, .int (nI a)), (2, .int (nI b))]) rfl ?_
        have e1 : jv_bI (m_bkt (decide (b = a)) A B p (nI (mt_n y))) = jv_bI (m_any (m_bky (decide (b = a)) A B p) (k + 1)) := by
          rw [m_any, c2, Bool.false_or]
          show _ = jv_bI (Option.any _ _)
          rw [hy]; rfl
        rw [e1]
        show jv_V E 6 h3 0 0 Q 65 [(5, .int (nI (10 * a + (k + 1)))), (3, .int (jv_bI (m_any (m_bky (decide (b = a)) A B p) (k + 1)))), (4, .int (nI p)), (0, .ref x), (1, .int (nI a)), (2, .int (nI b))] []
        exact ih (k + 1) _ (by omega) hpb
set_option maxHeartbeats 4000000 in
set_option maxRecDepth 100000 in
theorem r_bkp {E : jv_E} {Q : State → Prop} {x : Nat} {q : Nat → Nat} {h0 : jv_H} {a b : Nat} {A B : List mT} (hS0 : rf_S x q h0) (ha : a < 8) (hb : b < 8) (hEA : rf_E q h0 a A) (hEB : rf_E q h0 b B) (hVA : rf_V q h0 a A) (hVB : rf_V q h0 b B) (gA : ∀ k, k < A.length → m_hg A 11 k) (gB : ∀ k, k < B.length → m_hg B 11 k) (hlt : (jv_l E).stackTraces = false) (G : jv_C E cX8_compatible RX8 6) (Z : jv_rm E = jv_room 19 0 0) (hK : ∀ h2, rs x q h0 h2 → jv_I h2 x 0 = jv_I h0 x 0 → jv_V E 6 h2 0 0 Q 111 [(3, .int (jv_bI (m_any (m_bkp (decide (b = a)) A B) 5)))] []) : ∀ (m p : Nat) (h1 : jv_H), p + m = 5 → rs x q h0 h1 → jv_I h1 (q 22) 12 = nI a → jv_I h1 (q 24) 12 = jv_oN none → jv_I h1 x 0 = jv_I h0 x 0 → jv_V E 6 h1 0 0 Q 40 [(4, .int (nI p)), (3, .int (jv_bI (m_any (m_bkp (decide (b = a)) A B) p))), (0, .ref x), (1, .int (nI a)), (2, .int (nI b))] [] := by
  intro m
  induction m with
  | zero =>
    intro p h1 hm hrs hce hsu hx0
    have hS := hrs.S hS0
    have hla := hEA.2.1
    refine jv_iload (q := 42) G 0 dX8_compatible_40 rfl rfl ?_
    refine jv_iconst (q := 43) (v := nI 5) G dX8_compatible_42 (by decide) rfl ?_
    refine jv_icmp_geN (q := 46) (tgt := 111) G dX8_compatible_43 (by decide) rfl (by omega) (by omega) (fun c1 => ?_) (fun c1 => ?_)
    · refine jv_lo [1] (lo' := [(3, .int (jv_bI (m_any (m_bkp (decide (b = a)) A B) p)))]) rfl ?_
      rw [show p = 5 by omega]; exact hK _ hrs hx0
    · omega
  | succ m ih =>
    intro p h1 hm hrs hce hsu hx0
    have hS := hrs.S hS0
    have hla := hEA.2.1
    refine jv_iload (q := 42) G 0 dX8_compatible_40 rfl rfl ?_
    refine jv_iconst (q := 43) (v := nI 5) G dX8_compatible_42 (by decide) rfl ?_
    refine jv_icmp_geN (q := 46) (tgt := 111) G dX8_compatible_43 (by decide) rfl (by omega) (by omega) (fun c1 => ?_) (fun c1 => ?_)
    · omega
    · refine jv_iload_n (q := 47) G 1 dX8_compatible_46 rfl rfl rfl ?_
      refine jv_if_neB (q := 50) (tgt := 111) G dX8_compatible_47 (by decide) rfl (fun c2 => ?_) (fun c2 => ?_)
      · refine jv_lo [1] (lo' := [(3, .int (jv_bI (m_any (m_bkp (decide (b = a)) A B) p)))]) rfl ?_
        have e1 : m_any (m_bkp (decide (b = a)) A B) p = m_any (m_bkp (decide (b = a)) A B) 5 := by
          rw [c2, ← hm, any_m c2]
        rw [e1]; exact hK _ hrs hx0
      · refine jv_aload_n (q := 51) G 2 dX8_compatible_50 rfl rfl rfl ?_
        refine jv_getQ (q := 54) G dX8_compatible_51 fl_X8_71 rfl hS.1 (rf_p23 hS) rfl ?_
        refine jv_bipush (q := 56) (v := nI 12) G dX8_compatible_54 (by decide) rfl ?_
        refine jv_iload (q := 58) G 0 dX8_compatible_56 rfl rfl ?_
        refine jv_iast (q := 59) G dX8_compatible_58 (rf_a23 hS) rfl (by omega) (by decide) rfl ?_
        refine jv_bipush (q := 61) (v := nI 10) G dX8_compatible_59 (by decide) rfl ?_
        refine jv_iload_n (q := 62) G 3 dX8_compatible_61 rfl rfl rfl ?_
        refine jv_imulN (q := 63) G dX8_compatible_62 rfl ?_
        refine jv_istore (q := 65) (lo' := [(5, .int (nI (10 * a))), (4, .int (nI p)), (3, .int (jv_bI (m_any (m_bkp (decide (b = a)) A B) p))), (0, .ref x), (1, .int (nI a)), (2, .int (nI b))]) G dX8_compatible_63 (by decide) rfl rfl ?_
        refine jv_lo [0, 2, 1, 3, 4, 5] (lo' := [(5, .int (nI (10 * a))), (3, .int (jv_bI (m_any (m_bkp (decide (b = a)) A B) p))), (4, .int (nI p)), (0, .ref x), (1, .int (nI a)), (2, .int (nI b))]) rfl ?_
        have hpb : pb x q a p h0 (jv_wI h1 (q 23) 12 (nI p)) := ⟨hrs.wI _ (by unfold rx; simp), ((qI_q hS (by decide) rfl (by decide) rfl _ _ _).trans (if_neg (fun e => absurd e.1 (by decide)))).trans hce, jv_I_self _ _ _ _, ((qI_q hS (by decide) rfl (by decide) rfl _ _ _).trans (if_neg (fun e => absurd e.1 (by decide)))).trans hsu, (xI_q hS (by decide) rfl _ _ _).trans hx0⟩
        generalize jv_wI h1 (q 23) 12 (nI p) = hw at hpb ⊢
        have e0 : m_any (m_bkp (decide (b = a)) A B) p = m_any (m_bky (decide (b = a)) A B p) 0 := c2
        rw [e0]
        show jv_V E 6 hw 0 0 Q 65 [(5, .int (nI (10 * a + 0))), (3, .int (jv_bI (m_any (m_bky (decide (b = a)) A B p) 0))), (4, .int (nI p)), (0, .ref x), (1, .int (nI a)), (2, .int (nI b))] []
        refine r_bky hS0 ha hb (by omega) hEA hEB hVA hVB gA gB hlt G Z (fun h2 hpb2 => ?_) A.length 0 _ (by omega) hpb
        refine jv_iinc (q := 108) (lo' := [(4, .int (nI (p + 1))), (3, .int (jv_bI (m_any (m_bky (decide (b = a)) A B p) A.length))), (0, .ref x), (1, .int (nI a)), (2, .int (nI b))]) (v := nI (p + 1)) G 1 dX8_compatible_105 rfl (nI_1 p) (by decide) rfl rfl ?_
        refine jv_goto (q := 40) G dX8_compatible_108 (by decide) ?_
        refine jv_lo [0, 1, 2, 3, 4] (lo' := [(4, .int (nI (p + 1))), (3, .int (jv_bI (m_any (m_bky (decide (b = a)) A B p) A.length))), (0, .ref x), (1, .int (nI a)), (2, .int (nI b))]) rfl ?_
        have e1 : m_any (m_bky (decide (b = a)) A B p) A.length = m_any (m_bkp (decide (b = a)) A B) (p + 1) := by
          rw [m_any, c2, Bool.false_or]; rfl
        rw [e1]
        exact ih (p + 1) _ (by omega) hpb2.1 hpb2.2.1 hpb2.2.2.2.1 hpb2.2.2.2.2
set_option maxHeartbeats 4000000 in
set_option maxRecDepth 100000 in
theorem r_compatible {lA : Launch} (hlt : lA.stackTraces = false) {D : jv_D} {base : Nat} {x : Nat} {q : Nat → Nat} {h : jv_H} {M : mA} {a b : Int32} (hR : rf_R x q h M) : jv_Met lA D base yX8_compatible (.code yX8_compatible cX8_compatible 6 (some .boolean)) 19 0 0 [.ref x, .int a, .int b] h (fun v h' => ∃ r, v = some (.int r) ∧ ((m_paF M a b) = 0 → r = m_cmp M a b) ∧ jv_I h' x 0 = nI (m_paF M a b) ∧ rs x q h h') jv_no := by
  refine jv_ofV (lo := [(0, .ref x), (1, .int a), (2, .int b)]) hlt (by decide) (Nat.le_of_ble_eq_true rfl) rfl (fun E hEl hEd hEz Z G hr ht hnm => ?_)
  subst hEl; subst hEd; subst hEz
  obtain ⟨hS, ⟨hn8, hn⟩, ⟨hm12, hm⟩, hD, hV, hCs⟩ := id hR
  have hrs : rs x q h h := rs.rf
  have h3 := paF_lt M a b
  refine jv_aload_n (q := 1) G 0 dX8_compatible_0 rfl rfl rfl ?_
  refine jv_aload_n (q := 2) G 0 dX8_compatible_1 rfl rfl rfl ?_
  refine jv_iload_n (q := 3) G 1 dX8_compatible_2 rfl rfl rfl ?_
  refine jv_iload_n (q := 4) G 2 dX8_compatible_3 rfl rfl rfl ?_
  refine jv_callV_I (q := 7) (h1 := h) (As := [.int a, .int b]) (rest := [.ref x]) (ce' := 0) (sl' := 0) (r := nI (m_paF M a b)) G Z ml_X8_242 (r_pairFault hlt hR) hS.1 dX8_compatible_4 rfl (by decide) (by decide) (by decide) (by decide) (Nat.le_of_ble_eq_true rfl) rfl rfl rfl rfl ?_
  refine jv_putI (q := 10) G dX8_compatible_7 fl_X8_122 rfl hS.1 rfl ?_
  have hr1 : rs x q h (jv_wI h x 0 (nI (m_paF M a b))) := rs.rf.wI (nI (m_paF M a b)) (Or.inl ⟨rfl, Or.inl rfl⟩)
  have hth : jv_I (jv_wI h x 0 (nI (m_paF M a b))) x 0 = (nI (m_paF M a b)) := jv_I_self _ _ _ _
  have hR := hr1.R hR
  have hrs := hrs.tr hr1
  generalize jv_wI h x 0 (nI (m_paF M a b)) = h1 at hth hR hrs ⊢
  obtain ⟨hS, ⟨hn8, hn⟩, ⟨hm12, hm⟩, hD, hV, hCs⟩ := id hR
  have hsc : sc x q h1 h1 := sc.rf
  refine jv_aload_n (q := 11) G 0 dX8_compatible_10 rfl rfl rfl ?_
  refine jv_getI (q := 14) G dX8_compatible_11 fl_X8_122 rfl hS.1 hth rfl ?_
  refine jv_if_leN (q := 17) (tgt := 19) G dX8_compatible_14 (by decide) rfl (by omega) (fun c2 => ?_) (fun c2 => ?_)
  · have e0 := c2
    obtain ⟨k_a, k_b, hka, hkb, eka, ekb, za, zb, hsa, hsb⟩ := paF_0 (by omega) c2
    subst eka; subst ekb
    rw [e0] at hth
    refine jv_aload_n (q := 20) G 0 dX8_compatible_19 rfl rfl rfl ?_
    refine jv_getQ (q := 23) G dX8_compatible_20 fl_X8_68 rfl hS.1 (rf_p22 hS) rfl ?_
    refine jv_bipush (q := 25) (v := nI 12) G dX8_compatible_23 (by decide) rfl ?_
    refine jv_iload_n (q := 26) G 1 dX8_compatible_25 rfl rfl rfl ?_
    refine jv_iast (q := 27) G dX8_compatible_26 (rf_a22 hS) rfl (by omega) (by decide) rfl ?_
    refine jv_aload_n (q := 28) G 0 dX8_compatible_27 rfl rfl rfl ?_
    refine jv_getQ (q := 31) G dX8_compatible_28 fl_X8_74 rfl hS.1 (rf_p24 hS) rfl ?_
    refine jv_bipush (q := 33) (v := nI 12) G dX8_compatible_31 (by decide) rfl ?_
    refine jv_iconst (q := 34) (v := (-1)) G dX8_compatible_33 (by decide) rfl ?_
    refine jv_iast (q := 35) G dX8_compatible_34 (rf_a24 hS) rfl (by omega) (by decide) rfl ?_
    refine jv_iconst (q := 36) (v := nI 0) G dX8_compatible_35 (by decide) rfl ?_
    refine jv_istore_n (q := 37) (lo' := [(3, .int (nI 0)), (0, .ref x), (1, .int (nI k_a)), (2, .int (nI k_b))]) G dX8_compatible_36 rfl (by decide) rfl rfl ?_
    refine jv_iconst (q := 38) (v := nI 0) G dX8_compatible_37 (by decide) rfl ?_
    refine jv_istore (q := 40) (lo' := [(4, .int (nI 0)), (3, .int (nI 0)), (0, .ref x), (1, .int (nI k_a)), (2, .int (nI k_b))]) G dX8_compatible_38 (by decide) rfl rfl ?_
    refine jv_lo [0, 1, 2, 3, 4] (lo' := [(4, .int (nI 0)), (3, .int (nI 0)), (0, .ref x), (1, .int (nI k_a)), (2, .int (nI k_b))]) rfl ?_
    show jv_V E 6 (jv_wI (jv_wI h1 (q 22) 12 (nI k_a)) (q 24) 12 (-1)) 0 0 (jv_Q E (fun v h' => ∃ r, v = some (.int r) ∧ ((m_paF M (nI k_a) (nI k_b)) = 0 → r = m_cmp M (nI k_a) (nI k_b)) ∧ jv_I h' x 0 = nI (m_paF M (nI k_a) (nI k_b)) ∧ rs x q h h') jv_no 0 0) 40 [(4, .int (nI 0)), (3, .int (jv_bI (m_any (m_bkp (decide (k_b = k_a)) (ma_t M k_a) (ma_t M k_b)) 0))), (0, .ref x), (1, .int (nI k_a)), (2, .int (nI k_b))] []
    have hw1 : rs x q h1 (jv_wI (jv_wI h1 (q 22) 12 (nI k_a)) (q 24) 12 (-1)) := (rs.rf.wI (b := q 22) (k := 12) _ (by unfold rx; simp)).wI (b := q 24) (k := 12) _ (by unfold rx; simp)
    have hS1 := (rs.rf.wI (h := h1) (b := q 22) (k := 12) (nI k_a) (by unfold rx; simp) : rs x q h1 _).S hS
    refine r_bkp hS (by omega) (by omega) (hD k_a (by omega)).2 (hD k_b (by omega)).2 (hV k_a (by omega) hsa).1 (hV k_b (by omega) hsb).1 (hV k_a (by omega) hsa).2 (hV k_b (by omega) hsb).2 hlt G Z (fun h2 hr2 hx2 => ?_) 5 0 _ (by omega) hw1 (((qI_q hS1 (by decide) rfl (by decide) rfl _ _ _).trans (if_neg (fun e => absurd e.1 (by decide)))).trans (jv_I_self _ _ _ _)) (jv_I_self _ _ _ _) ((xI_q hS1 (by decide) rfl _ _ _).trans (xI_q hS (by decide) rfl _ _ _))
    refine jv_iload_n (q := 112) G 0 dX8_compatible_111 rfl rfl rfl ?_
    refine jv_if_neB (q := 115) (tgt := 119) G dX8_compatible_112 (by decide) rfl (fun c3 => ?_) (fun c3 => ?_)
    · refine jv_iconst (q := 120) (v := nI 0) G dX8_compatible_119 (by decide) rfl ?_
      refine jv_topI (y := jv_bI false) rfl ?_
      refine jv_zret G hr dX8_compatible_120 (Nat.le_of_ble_eq_true rfl) (Nat.le_of_ble_eq_true rfl) ?_
      refine ⟨_, rfl, fun hz => ?_, (hx2.trans hth).trans (by rw [e0]), hrs.tr hr2⟩
      unfold m_cmp; rw [za, zb]; dsimp only; rw [c3]; rfl
    · refine jv_iconst (q := 116) (v := nI 1) G dX8_compatible_115 (by decide) rfl ?_
      refine jv_goto (q := 120) G dX8_compatible_116 (by decide) ?_
      refine jv_topI (y := jv_bI true) rfl ?_
      refine jv_zret G hr dX8_compatible_120 (Nat.le_of_ble_eq_true rfl) (Nat.le_of_ble_eq_true rfl) ?_
      refine ⟨_, rfl, fun hz => ?_, (hx2.trans hth).trans (by rw [e0]), hrs.tr hr2⟩
      unfold m_cmp; rw [za, zb]; dsimp only; rw [c3]; rfl
  · refine jv_iconst (q := 18) (v := nI 0) G dX8_compatible_17 (by decide) rfl ?_
    refine jv_topI (y := jv_bI false) rfl ?_
    refine jv_zret G hr dX8_compatible_18 (Nat.le_of_ble_eq_true rfl) (Nat.le_of_ble_eq_true rfl) ?_
    refine ⟨_, rfl, fun hz => absurd hz c2, hth, hrs⟩
