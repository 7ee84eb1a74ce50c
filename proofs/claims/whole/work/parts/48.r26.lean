def tb (q : Nat → Nat) (h : jv_H) (e : Nat) (A : Nat → Nat → Bool) : Prop := ∀ u l, u < 16 → l < 16 → jv_I h (q 20) (256 * e + 16 * u + l) = jv_bI (A u l)
theorem tb.cong {q : Nat → Nat} {h : jv_H} {e : Nat} {A B : Nat → Nat → Bool} (a : tb q h e A) (c : ∀ u l, u < 16 → l < 16 → A u l = B u l) : tb q h e B := fun u l hu hl => by rw [← c u l hu hl]; exact a u l hu hl
theorem tb.set {x : Nat} {q : Nat → Nat} {h : jv_H} {e : Nat} {A : Nat → Nat → Bool} (hS : rf_S x q h) (a : tb q h e A) {u l : Nat} (hu : u < 16) (hl : l < 16) : tb q (jv_wI h (q 20) (256 * e + 16 * u + l) (jv_bI true)) e (fun u' l' => A u' l' || decide (u' = u ∧ l' = l)) := fun u' l' hu' hl' => by
  rw [qI_q hS (by decide) rfl (by decide) rfl]
  by_cases h1 : u' = u ∧ l' = l
  · obtain ⟨rfl, rfl⟩ := h1
    rw [if_pos ⟨rfl, rfl⟩]
    simp
  · dsimp only
    rw [if_neg (by omega), a u' l' hu' hl', decide_eq_false h1, Bool.or_false]
def w_2 (ts : List mT) (t : mT) (i j u l : Nat) : Bool := w_e ts i u l || decide (mt_n t = l ∧ (u ∈ (mt_f t).take j ∨ mt_u t = some u))
theorem w_2_0 {ts : List mT} {t : mT} {i : Nat} {u l : Nat} (h : mt_u t = none) : w_e ts i u l = w_2 ts t i 0 u l := by
  unfold w_2
  rw [h]
  simp
theorem w_2_u {ts : List mT} {t : mT} {i u0 : Nat} {u l : Nat} (h : mt_u t = some u0) : (w_e ts i u l || decide (u = u0 ∧ l = mt_n t)) = w_2 ts t i 0 u l := by
  unfold w_2
  rw [h]
  congr 1
  rw [decide_eq_decide]
  simp only [List.take_zero, List.not_mem_nil, false_or, Option.some.injEq]
  constructor
  · rintro ⟨h1, h2⟩; exact ⟨h2.symm, h1.symm⟩
  · rintro ⟨h1, h2⟩; exact ⟨h2.symm, h1.symm⟩
theorem w_2_s {ts : List mT} {t : mT} {i j v : Nat} {u l : Nat} (h : (mt_f t)[j]? = some v) : (w_2 ts t i j u l || decide (u = v ∧ l = mt_n t)) = w_2 ts t i (j + 1) u l := by
  unfold w_2
  rw [Bool.or_assoc]
  congr 1
  rw [← Bool.decide_or, decide_eq_decide, List.take_add_one, h]
  simp only [Option.toList_some, List.mem_append, List.mem_singleton]
  constructor
  · rintro (⟨h1, h2⟩ | ⟨h1, h2⟩)
    · exact ⟨h1, h2.elim (fun z => Or.inl (Or.inl z)) Or.inr⟩
    · exact ⟨h2.symm, Or.inl (Or.inr h1)⟩
  · rintro ⟨h1, (h2 | h2) | h2⟩
    · exact Or.inl ⟨h1, Or.inl h2⟩
    · exact Or.inr ⟨h2, h1.symm⟩
    · exact Or.inl ⟨h1, Or.inr h2⟩
theorem w_2_e {ts : List mT} {t : mT} {i : Nat} {u l : Nat} (h : ts[i]? = some t) : w_2 ts t i (mt_f t).length u l = w_e ts (i + 1) u l := by
  unfold w_2
  rw [w_e, h, List.take_length]
  rfl
def w_p (A : Nat → Nat → Bool) (k i j u l : Nat) : Bool := if u < i ∨ (u = i ∧ l < j) then w_w A (k + 1) u l else w_w A k u l
theorem w_p_c {A : Nat → Nat → Bool} {k i j u : Nat} : w_p A k i j u k = w_w A k u k := by
  unfold w_p
  split
  · exact w_w_c
  · rfl
theorem w_p_r {A : Nat → Nat → Bool} {k i j l : Nat} : w_p A k i j k l = w_w A k k l := by
  unfold w_p
  split
  · exact w_w_r
  · rfl
theorem w_p_y {A : Nat → Nat → Bool} {k i j : Nat} {u l : Nat} (h1 : w_w A k i k = true) (h2 : w_w A k k j = true) : (w_p A k i j u l || decide (u = i ∧ l = j)) = w_p A k i (j + 1) u l := by
  unfold w_p
  by_cases hc : u = i ∧ l = j
  · obtain ⟨rfl, rfl⟩ := hc
    rw [if_pos (c := u < u ∨ (u = u ∧ l < l + 1)) (by omega), w_w, h1, h2]
    simp
  · rw [decide_eq_false hc, Bool.or_false]
    by_cases h3 : u < i ∨ (u = i ∧ l < j)
    · rw [if_pos h3, if_pos (by omega)]
    · rw [if_neg h3, if_neg (by omega)]
theorem w_p_n {A : Nat → Nat → Bool} {k i j : Nat} {u l : Nat} (h : w_w A k i k = false ∨ w_w A k k j = false) : w_p A k i j u l = w_p A k i (j + 1) u l := by
  unfold w_p
  by_cases hc : u = i ∧ l = j
  · obtain ⟨rfl, rfl⟩ := hc
    rw [if_neg (by omega), if_pos (by omega), w_w]
    rcases h with h | h <;> rw [h] <;> simp
  · by_cases h3 : u < i ∨ (u = i ∧ l < j)
    · rw [if_pos h3, if_pos (by omega)]
    · rw [if_neg h3, if_neg (by omega)]
theorem w_p_0 {A : Nat → Nat → Bool} {k u l : Nat} : w_w A k u l = w_p A k 0 0 u l := by
  unfold w_p
  rw [if_neg (by omega)]
theorem w_p_j {A : Nat → Nat → Bool} {k i u l : Nat} (hl : l < 16) : w_p A k i 16 u l = w_p A k (i + 1) 0 u l := by
  unfold w_p
  by_cases h : u < i + 1
  · rw [if_pos (by omega), if_pos (by omega)]
  · rw [if_neg (by omega), if_neg (by omega)]
theorem w_p_k {A : Nat → Nat → Bool} {k u l : Nat} (hu : u < 16) : w_p A k 16 0 u l = w_w A (k + 1) u l := by
  unfold w_p
  rw [if_pos (by omega)]
set_option maxHeartbeats 4000000 in
set_option maxRecDepth 100000 in
theorem r_rk1 {E : jv_E} {x : Nat} {q : Nat → Nat} {h : jv_H} {e : Nat} {Q : State → Prop} (G : jv_C E cX8_reckon RX8 6) (hS0 : rf_S x q h) (he : e < 8)  (hK : ∀ h2, FW (fun k j => k = 20 ∧ 256 * e ≤ j ∧ j < 256 * e + 256) (fun _ => False) x q h h2 → (∀ j, j < 256 → jv_I h2 (q 20) (256 * e + j) = jv_bI false) → jv_V E 6 h2 0 0 Q 30 [(0, .ref x), (1, .int (nI e)), (2, .int (nI (256 * e)))] []) : ∀ (m i : Nat) (h1 : jv_H), i + m = 256 → FW (fun k j => k = 20 ∧ 256 * e ≤ j ∧ j < 256 * e + 256) (fun _ => False) x q h h1 → (∀ j, j < i → jv_I h1 (q 20) (256 * e + j) = jv_bI false) → jv_V E 6 h1 0 0 Q 8 [(3, .int (nI i)), (0, .ref x), (1, .int (nI e)), (2, .int (nI (256 * e)))] [] := by
  intro m
  induction m with
  | zero =>
    intro i h1 hm hF hz
    have hS := hF.S hS0
    refine jv_iload_n (q := 9) G 0 dX8_reckon_8 rfl rfl rfl ?_
    refine jv_sipush (q := 12) (v := nI 256) G dX8_reckon_9 (by decide) rfl ?_
    refine jv_icmp_geN (q := 15) (tgt := 30) G dX8_reckon_12 (by decide) rfl (by omega) (by omega) (fun c1 => ?_) (fun c1 => ?_)
    · refine jv_lo [1, 2, 3] (lo' := [(0, .ref x), (1, .int (nI e)), (2, .int (nI (256 * e)))]) rfl ?_
      have em : i = 256 := by omega
      rw [em] at hz
      exact hK _ hF hz
    · omega
  | succ m ih =>
    intro i h1 hm hF hz
    have hS := hF.S hS0
    refine jv_iload_n (q := 9) G 0 dX8_reckon_8 rfl rfl rfl ?_
    refine jv_sipush (q := 12) (v := nI 256) G dX8_reckon_9 (by decide) rfl ?_
    refine jv_icmp_geN (q := 15) (tgt := 30) G dX8_reckon_12 (by decide) rfl (by omega) (by omega) (fun c1 => ?_) (fun c1 => ?_)
    · omega
    · refine jv_aload_n (q := 16) G 1 dX8_reckon_15 rfl rfl rfl ?_
      refine jv_getQ (q := 19) G dX8_reckon_16 fl_X8_65 rfl hS.1 (rf_p20 hS) rfl ?_
      refine jv_iload_n (q := 20) G 3 dX8_reckon_19 rfl rfl rfl ?_
      refine jv_iload_n (q := 21) G 0 dX8_reckon_20 rfl rfl rfl ?_
      refine jv_iaddN (q := 22) G dX8_reckon_21 rfl ?_
      refine jv_iconst (q := 23) (v := nI 0) G dX8_reckon_22 (by decide) rfl ?_
      refine jv_topI (y := jv_bI false) rfl ?_
      refine jv_zast (q := 24) G dX8_reckon_23 (rf_a20 hS) rfl (by omega) (by decide) rfl ?_
      refine jv_iinc (q := 27) (lo' := [(3, .int (nI (i + 1))), (0, .ref x), (1, .int (nI e)), (2, .int (nI (256 * e)))]) (v := nI (i + 1)) G 0 dX8_reckon_24 rfl (nI_1 i) (by decide) rfl rfl ?_
      refine jv_goto (q := 8) G dX8_reckon_27 (by decide) ?_
      refine jv_lo [0, 1, 2, 3] (lo' := [(3, .int (nI (i + 1))), (0, .ref x), (1, .int (nI e)), (2, .int (nI (256 * e)))]) rfl ?_
      refine ih (i + 1) _ (by omega) (hF.wq hS0 (k := 20) (by decide) rfl ⟨rfl, by omega, by omega⟩ _) (fun j hj => ?_)
      rw [qI_q hS (by decide) rfl (by decide) rfl]
      by_cases hji : j = i
      · subst hji; rw [if_pos ⟨rfl, rfl⟩]
      · rw [if_neg (by omega)]; exact hz j (by omega)
set_option maxHeartbeats 4000000 in
set_option maxRecDepth 100000 in
theorem r_rk2 {E : jv_E} {x : Nat} {q : Nat → Nat} {h : jv_H} {e : Nat} {Q : State → Prop} (G : jv_C E cX8_reckon RX8 6) (hS0 : rf_S x q h) (he : e < 8) {ts : List mT} {t : mT} {i : Nat} (hE : rf_E q h e ts) (hti : ts[i]? = some t)  (hK : ∀ h2, FW (fun k j => k = 20 ∧ 256 * e ≤ j ∧ j < 256 * e + 256) (fun _ => False) x q h h2 → tb q h2 e (w_2 ts t i (mt_f t).length) → jv_V E 6 h2 0 0 Q 133 [(3, .int (nI (10 * e + i))), (0, .ref x), (1, .int (nI e)), (2, .int (nI (256 * e)))] []) : ∀ (m j : Nat) (h1 : jv_H), j + m = (mt_f t).length → FW (fun k j => k = 20 ∧ 256 * e ≤ j ∧ j < 256 * e + 256) (fun _ => False) x q h h1 → tb q h1 e (w_2 ts t i j) → jv_V E 6 h1 0 0 Q 87 [(4, .int (nI j)), (3, .int (nI (10 * e + i))), (0, .ref x), (1, .int (nI e)), (2, .int (nI (256 * e)))] [] := by
  intro m
  induction m with
  | zero =>
    intro j h1 hm hF ht2
    have hS := hF.S hS0
    have hil := jv_ltGet hti; have hl10 := hE.2.1; have hO := (hE.2.2 i t hti).2
    have hl3 := hO.2.2.2.1; have hn16 := hO.1
    have hT : rf_T q h1 (10 * e + i) t := hF.T hO (fun k j o z => by unfold o_T k_t k_m at o; omega) (hE.2.2 i t hti).1
    refine jv_iload (q := 89) G 0 dX8_reckon_87 rfl rfl ?_
    refine jv_aload_n (q := 90) G 2 dX8_reckon_89 rfl rfl rfl ?_
    refine jv_getQ (q := 93) G dX8_reckon_90 fl_X8_35 rfl hS.1 (rf_p10 hS) rfl ?_
    refine jv_iload_n (q := 94) G 1 dX8_reckon_93 rfl rfl rfl ?_
    refine jv_iald (q := 95) G dX8_reckon_94 (rf_a10 hS) rfl (by omega) (by decide) (rt_10 hT) rfl ?_
    refine jv_icmp_geN (q := 98) (tgt := 133) G dX8_reckon_95 (by decide) rfl (by omega) (by omega) (fun c1 => ?_) (fun c1 => ?_)
    · refine jv_lo [1, 2, 3, 4] (lo' := [(3, .int (nI (10 * e + i))), (0, .ref x), (1, .int (nI e)), (2, .int (nI (256 * e)))]) rfl ?_
      have em : j = (mt_f t).length := by omega
      rw [em] at ht2
      exact hK _ hF ht2
    · omega
  | succ m ih =>
    intro j h1 hm hF ht2
    have hS := hF.S hS0
    have hil := jv_ltGet hti; have hl10 := hE.2.1; have hO := (hE.2.2 i t hti).2
    have hl3 := hO.2.2.2.1; have hn16 := hO.1
    have hT : rf_T q h1 (10 * e + i) t := hF.T hO (fun k j o z => by unfold o_T k_t k_m at o; omega) (hE.2.2 i t hti).1
    obtain ⟨v, hv⟩ := jv_getLt (l := mt_f t) (k := j) (by omega)
    have hv11 := rt_11 hT hv
    have hv16 := hO.2.2.2.2.1 v (List.mem_of_getElem? hv)
    refine jv_iload (q := 89) G 0 dX8_reckon_87 rfl rfl ?_
    refine jv_aload_n (q := 90) G 2 dX8_reckon_89 rfl rfl rfl ?_
    refine jv_getQ (q := 93) G dX8_reckon_90 fl_X8_35 rfl hS.1 (rf_p10 hS) rfl ?_
    refine jv_iload_n (q := 94) G 1 dX8_reckon_93 rfl rfl rfl ?_
    refine jv_iald (q := 95) G dX8_reckon_94 (rf_a10 hS) rfl (by omega) (by decide) (rt_10 hT) rfl ?_
    refine jv_icmp_geN (q := 98) (tgt := 133) G dX8_reckon_95 (by decide) rfl (by omega) (by omega) (fun c1 => ?_) (fun c1 => ?_)
    · omega
    · refine jv_aload_n (q := 99) G 2 dX8_reckon_98 rfl rfl rfl ?_
      refine jv_getQ (q := 102) G dX8_reckon_99 fl_X8_65 rfl hS.1 (rf_p20 hS) rfl ?_
      refine jv_iload_n (q := 103) G 4 dX8_reckon_102 rfl rfl rfl ?_
      refine jv_bipush (q := 105) (v := nI 16) G dX8_reckon_103 (by decide) rfl ?_
      refine jv_aload_n (q := 106) G 2 dX8_reckon_105 rfl rfl rfl ?_
      refine jv_getQ (q := 109) G dX8_reckon_106 fl_X8_38 rfl hS.1 (rf_p11 hS) rfl ?_
      refine jv_iconst (q := 110) (v := nI 3) G dX8_reckon_109 (by decide) rfl ?_
      refine jv_iload_n (q := 111) G 1 dX8_reckon_110 rfl rfl rfl ?_
      refine jv_imulN (q := 112) G dX8_reckon_111 rfl ?_
      refine jv_iload (q := 114) G 0 dX8_reckon_112 rfl rfl ?_
      refine jv_iaddN (q := 115) G dX8_reckon_114 rfl ?_
      refine jv_iald (q := 116) G dX8_reckon_115 (rf_a11 hS) rfl (by omega) (by decide) hv11 rfl ?_
      refine jv_imulN (q := 117) G dX8_reckon_116 rfl ?_
      refine jv_iaddN (q := 118) G dX8_reckon_117 rfl ?_
      refine jv_aload_n (q := 119) G 2 dX8_reckon_118 rfl rfl rfl ?_
      refine jv_getQ (q := 122) G dX8_reckon_119 fl_X8_17 rfl hS.1 (rf_p4 hS) rfl ?_
      refine jv_iload_n (q := 123) G 1 dX8_reckon_122 rfl rfl rfl ?_
      refine jv_iald (q := 124) G dX8_reckon_123 (rf_a4 hS) rfl (by omega) (by decide) (rt_4 hT) rfl ?_
      refine jv_iaddN (q := 125) G dX8_reckon_124 rfl ?_
      refine jv_iconst (q := 126) (v := nI 1) G dX8_reckon_125 (by decide) rfl ?_
      refine jv_topI (y := jv_bI true) rfl ?_
      refine jv_zast (q := 127) G dX8_reckon_126 (rf_a20 hS) rfl (by omega) (by decide) rfl ?_
      refine jv_iinc (q := 130) (lo' := [(4, .int (nI (j + 1))), (3, .int (nI (10 * e + i))), (0, .ref x), (1, .int (nI e)), (2, .int (nI (256 * e)))]) (v := nI (j + 1)) G 0 dX8_reckon_127 rfl (nI_1 j) (by decide) rfl rfl ?_
      refine jv_goto (q := 87) G dX8_reckon_130 (by decide) ?_
      refine jv_lo [0, 1, 2, 3, 4] (lo' := [(4, .int (nI (j + 1))), (3, .int (nI (10 * e + i))), (0, .ref x), (1, .int (nI e)), (2, .int (nI (256 * e)))]) rfl ?_
      exact ih (j + 1) _ (by omega) (hF.wq hS0 (k := 20) (by decide) rfl ⟨rfl, by omega, by omega⟩ _) ((ht2.set hS hv16 hn16).cong (fun u l _ _ => w_2_s hv))
set_option maxHeartbeats 4000000 in
set_option maxRecDepth 100000 in
theorem r_rk3 {E : jv_E} {x : Nat} {q : Nat → Nat} {h : jv_H} {e : Nat} {Q : State → Prop} (G : jv_C E cX8_reckon RX8 6) (hS0 : rf_S x q h) (he : e < 8) {ts : List mT} (hE : rf_E q h e ts)  (hK : ∀ h2, FW (fun k j => k = 20 ∧ 256 * e ≤ j ∧ j < 256 * e + 256) (fun _ => False) x q h h2 → tb q h2 e (w_e ts ts.length) → jv_V E 6 h2 0 0 Q 139 [(0, .ref x), (1, .int (nI e)), (2, .int (nI (256 * e)))] []) : ∀ (m i : Nat) (h1 : jv_H), i + m = ts.length → FW (fun k j => k = 20 ∧ 256 * e ≤ j ∧ j < 256 * e + 256) (fun _ => False) x q h h1 → tb q h1 e (w_e ts i) → jv_V E 6 h1 0 0 Q 35 [(3, .int (nI (10 * e + i))), (0, .ref x), (1, .int (nI e)), (2, .int (nI (256 * e)))] [] := by
  intro m
  induction m with
  | zero =>
    intro i h1 hm hF htb
    have hS := hF.S hS0
    have hl10 := hE.2.1
    have h3 : jv_I h1 (q 3) e = nI ts.length := (hF.aq 3 e (by omega)).trans hE.1
    refine jv_iload_n (q := 36) G 0 dX8_reckon_35 rfl rfl rfl ?_
    refine jv_bipush (q := 38) (v := nI 10) G dX8_reckon_36 (by decide) rfl ?_
    refine jv_iload_n (q := 39) G 2 dX8_reckon_38 rfl rfl rfl ?_
    refine jv_imulN (q := 40) G dX8_reckon_39 rfl ?_
    refine jv_aload_n (q := 41) G 1 dX8_reckon_40 rfl rfl rfl ?_
    refine jv_getQ (q := 44) G dX8_reckon_41 fl_X8_13 rfl hS.1 (rf_p3 hS) rfl ?_
    refine jv_iload_n (q := 45) G 2 dX8_reckon_44 rfl rfl rfl ?_
    refine jv_iald (q := 46) G dX8_reckon_45 (rf_a3 hS) rfl (by omega) (by decide) h3 rfl ?_
    refine jv_iaddN (q := 47) G dX8_reckon_46 rfl ?_
    refine jv_icmp_geN (q := 50) (tgt := 139) G dX8_reckon_47 (by decide) rfl (by omega) (by omega) (fun c1 => ?_) (fun c1 => ?_)
    · refine jv_lo [1, 2, 3] (lo' := [(0, .ref x), (1, .int (nI e)), (2, .int (nI (256 * e)))]) rfl ?_
      have em : i = ts.length := by omega
      rw [em] at htb
      exact hK _ hF htb
    · omega
  | succ m ih =>
    intro i h1 hm hF htb
    have hS := hF.S hS0
    have hl10 := hE.2.1
    have h3 : jv_I h1 (q 3) e = nI ts.length := (hF.aq 3 e (by omega)).trans hE.1
    obtain ⟨t, hti⟩ := jv_getLt (l := ts) (k := i) (by omega)
    have hO := (hE.2.2 i t hti).2
    have hn16 := hO.1
    have hT : rf_T q h1 (10 * e + i) t := hF.T hO (fun k j o z => by unfold o_T k_t k_m at o; omega) (hE.2.2 i t hti).1
    cases hu : mt_u t with
    | none =>
      refine jv_iload_n (q := 36) G 0 dX8_reckon_35 rfl rfl rfl ?_
      refine jv_bipush (q := 38) (v := nI 10) G dX8_reckon_36 (by decide) rfl ?_
      refine jv_iload_n (q := 39) G 2 dX8_reckon_38 rfl rfl rfl ?_
      refine jv_imulN (q := 40) G dX8_reckon_39 rfl ?_
      refine jv_aload_n (q := 41) G 1 dX8_reckon_40 rfl rfl rfl ?_
      refine jv_getQ (q := 44) G dX8_reckon_41 fl_X8_13 rfl hS.1 (rf_p3 hS) rfl ?_
      refine jv_iload_n (q := 45) G 2 dX8_reckon_44 rfl rfl rfl ?_
      refine jv_iald (q := 46) G dX8_reckon_45 (rf_a3 hS) rfl (by omega) (by decide) h3 rfl ?_
      refine jv_iaddN (q := 47) G dX8_reckon_46 rfl ?_
      refine jv_icmp_geN (q := 50) (tgt := 139) G dX8_reckon_47 (by decide) rfl (by omega) (by omega) (fun c1 => ?_) (fun c1 => ?_)
      · omega
      · refine jv_aload_n (q := 51) G 1 dX8_reckon_50 rfl rfl rfl ?_
        refine jv_getQ (q := 54) G dX8_reckon_51 fl_X8_32 rfl hS.1 (rf_p9 hS) rfl ?_
        refine jv_iload_n (q := 55) G 0 dX8_reckon_54 rfl rfl rfl ?_
        refine jv_iald (q := 56) G dX8_reckon_55 (rf_a9 hS) rfl (by omega) (by decide) ((rt_9 hT).trans (congrArg jv_oN hu)) rfl ?_
        refine jv_iconst (q := 57) (v := (-1)) G dX8_reckon_56 (by decide) rfl ?_
        refine jv_icmp_eq (q := 60) (tgt := 84) G dX8_reckon_57 (by decide) rfl (fun c2 => ?_) (fun c2 => ?_)
        · refine jv_iconst (q := 85) (v := nI 0) G dX8_reckon_84 (by decide) rfl ?_
          refine jv_istore (q := 87) (lo' := [(4, .int (nI 0)), (3, .int (nI (10 * e + i))), (0, .ref x), (1, .int (nI e)), (2, .int (nI (256 * e)))]) G dX8_reckon_85 (by decide) rfl rfl ?_
          refine jv_lo [0, 1, 2, 3, 4] (lo' := [(4, .int (nI 0)), (3, .int (nI (10 * e + i))), (0, .ref x), (1, .int (nI e)), (2, .int (nI (256 * e)))]) rfl ?_
          refine r_rk2 G hS0 he hE hti (fun h2 hF2 ht2 => ?_) (mt_f t).length 0 _ (by omega) hF (htb.cong (fun u l _ _ => w_2_0 hu))
          refine jv_iinc (q := 136) (lo' := [(3, .int (nI (10 * e + i + 1))), (0, .ref x), (1, .int (nI e)), (2, .int (nI (256 * e)))]) (v := nI (10 * e + i + 1)) G 0 dX8_reckon_133 rfl (nI_1 (10 * e + i)) (by decide) rfl rfl ?_
          refine jv_goto (q := 35) G dX8_reckon_136 (by decide) ?_
          show jv_V E 6 h2 0 0 Q 35 [(3, .int (nI (10 * e + (i + 1)))), (0, .ref x), (1, .int (nI e)), (2, .int (nI (256 * e)))] []
          refine jv_lo [0, 1, 2, 3] (lo' := [(3, .int (nI (10 * e + (i + 1)))), (0, .ref x), (1, .int (nI e)), (2, .int (nI (256 * e)))]) rfl ?_
          exact ih (i + 1) _ (by omega) hF2 (ht2.cong (fun u l _ _ => w_2_e hti))
        · exact absurd rfl c2
    | some u0 =>
      have hu16 := (hO.2.2.1 u0 hu).1
      refine jv_iload_n (q := 36) G 0 dX8_reckon_35 rfl rfl rfl ?_
      refine jv_bipush (q := 38) (v := nI 10) G dX8_reckon_36 (by decide) rfl ?_
      refine jv_iload_n (q := 39) G 2 dX8_reckon_38 rfl rfl rfl ?_
      refine jv_imulN (q := 40) G dX8_reckon_39 rfl ?_
      refine jv_aload_n (q := 41) G 1 dX8_reckon_40 rfl rfl rfl ?_
      refine jv_getQ (q := 44) G dX8_reckon_41 fl_X8_13 rfl hS.1 (rf_p3 hS) rfl ?_
      refine jv_iload_n (q := 45) G 2 dX8_reckon_44 rfl rfl rfl ?_
      refine jv_iald (q := 46) G dX8_reckon_45 (rf_a3 hS) rfl (by omega) (by decide) h3 rfl ?_
      refine jv_iaddN (q := 47) G dX8_reckon_46 rfl ?_
      refine jv_icmp_geN (q := 50) (tgt := 139) G dX8_reckon_47 (by decide) rfl (by omega) (by omega) (fun c3 => ?_) (fun c3 => ?_)
      · omega
      · refine jv_aload_n (q := 51) G 1 dX8_reckon_50 rfl rfl rfl ?_
        refine jv_getQ (q := 54) G dX8_reckon_51 fl_X8_32 rfl hS.1 (rf_p9 hS) rfl ?_
        refine jv_iload_n (q := 55) G 0 dX8_reckon_54 rfl rfl rfl ?_
        refine jv_iald (q := 56) G dX8_reckon_55 (rf_a9 hS) rfl (by omega) (by decide) ((rt_9 hT).trans (congrArg jv_oN hu)) rfl ?_
        refine jv_iconst (q := 57) (v := (-1)) G dX8_reckon_56 (by decide) rfl ?_
        refine jv_icmp_eq (q := 60) (tgt := 84) G dX8_reckon_57 (by decide) rfl (fun c4 => ?_) (fun c4 => ?_)
        · exact absurd c4 (jv_nI_m1 (by omega))
        · refine jv_aload_n (q := 61) G 1 dX8_reckon_60 rfl rfl rfl ?_
          refine jv_getQ (q := 64) G dX8_reckon_61 fl_X8_65 rfl hS.1 (rf_p20 hS) rfl ?_
          refine jv_iload_n (q := 65) G 3 dX8_reckon_64 rfl rfl rfl ?_
          refine jv_bipush (q := 67) (v := nI 16) G dX8_reckon_65 (by decide) rfl ?_
          refine jv_aload_n (q := 68) G 1 dX8_reckon_67 rfl rfl rfl ?_
          refine jv_getQ (q := 71) G dX8_reckon_68 fl_X8_32 rfl hS.1 (rf_p9 hS) rfl ?_
          refine jv_iload_n (q := 72) G 0 dX8_reckon_71 rfl rfl rfl ?_
          refine jv_iald (q := 73) G dX8_reckon_72 (rf_a9 hS) rfl (by omega) (by decide) ((rt_9 hT).trans (congrArg jv_oN hu)) rfl ?_
          refine jv_imulN (q := 74) G dX8_reckon_73 rfl ?_
          refine jv_iaddN (q := 75) G dX8_reckon_74 rfl ?_
          refine jv_aload_n (q := 76) G 1 dX8_reckon_75 rfl rfl rfl ?_
          refine jv_getQ (q := 79) G dX8_reckon_76 fl_X8_17 rfl hS.1 (rf_p4 hS) rfl ?_
          refine jv_iload_n (q := 80) G 0 dX8_reckon_79 rfl rfl rfl ?_
          refine jv_iald (q := 81) G dX8_reckon_80 (rf_a4 hS) rfl (by omega) (by decide) (rt_4 hT) rfl ?_
          refine jv_iaddN (q := 82) G dX8_reckon_81 rfl ?_
          refine jv_iconst (q := 83) (v := nI 1) G dX8_reckon_82 (by decide) rfl ?_
          refine jv_topI (y := jv_bI true) rfl ?_
          refine jv_zast (q := 84) G dX8_reckon_83 (rf_a20 hS) rfl (by omega) (by decide) rfl ?_
          refine jv_iconst (q := 85) (v := nI 0) G dX8_reckon_84 (by decide) rfl ?_
          refine jv_istore (q := 87) (lo' := [(4, .int (nI 0)), (3, .int (nI (10 * e + i))), (0, .ref x), (1, .int (nI e)), (2, .int (nI (256 * e)))]) G dX8_reckon_85 (by decide) rfl rfl ?_
          refine jv_lo [0, 1, 2, 3, 4] (lo' := [(4, .int (nI 0)), (3, .int (nI (10 * e + i))), (0, .ref x), (1, .int (nI e)), (2, .int (nI (256 * e)))]) rfl ?_
          refine r_rk2 G hS0 he hE hti (fun h2 hF2 ht2 => ?_) (mt_f t).length 0 _ (by omega) (hF.wq hS0 (k := 20) (by decide) rfl ⟨rfl, by omega, by omega⟩ _) ((htb.set hS hu16 hn16).cong (fun u l _ _ => w_2_u hu))
          refine jv_iinc (q := 136) (lo' := [(3, .int (nI (10 * e + i + 1))), (0, .ref x), (1, .int (nI e)), (2, .int (nI (256 * e)))]) (v := nI (10 * e + i + 1)) G 0 dX8_reckon_133 rfl (nI_1 (10 * e + i)) (by decide) rfl rfl ?_
          refine jv_goto (q := 35) G dX8_reckon_136 (by decide) ?_
          show jv_V E 6 h2 0 0 Q 35 [(3, .int (nI (10 * e + (i + 1)))), (0, .ref x), (1, .int (nI e)), (2, .int (nI (256 * e)))] []
          refine jv_lo [0, 1, 2, 3] (lo' := [(3, .int (nI (10 * e + (i + 1)))), (0, .ref x), (1, .int (nI e)), (2, .int (nI (256 * e)))]) rfl ?_
          exact ih (i + 1) _ (by omega) hF2 (ht2.cong (fun u l _ _ => w_2_e hti))
set_option maxHeartbeats 4000000 in
set_option maxRecDepth 100000 in
theorem r_rk4 {E : jv_E} {x : Nat} {q : Nat → Nat} {h : jv_H} {e : Nat} {Q : State → Prop} (G : jv_C E cX8_reckon RX8 6) (hS0 : rf_S x q h) (he : e < 8) {A : Nat → Nat → Bool} {k i : Nat} (hk : k < 16) (hi : i < 16)  (hK : ∀ h2, FW (fun k j => k = 20 ∧ 256 * e ≤ j ∧ j < 256 * e + 256) (fun _ => False) x q h h2 → tb q h2 e (w_p A k i 16) → jv_V E 6 h2 0 0 Q 223 [(4, .int (nI i)), (3, .int (nI k)), (0, .ref x), (1, .int (nI e)), (2, .int (nI (256 * e)))] []) : ∀ (m j : Nat) (h1 : jv_H), j + m = 16 → FW (fun k j => k = 20 ∧ 256 * e ≤ j ∧ j < 256 * e + 256) (fun _ => False) x q h h1 → tb q h1 e (w_p A k i j) → jv_V E 6 h1 0 0 Q 160 [(5, .int (nI j)), (4, .int (nI i)), (3, .int (nI k)), (0, .ref x), (1, .int (nI e)), (2, .int (nI (256 * e)))] [] := by
  intro m
  induction m with
  | zero =>
    intro j h1 hm hF htb
    have hS := hF.S hS0
    refine jv_iload (q := 162) G 0 dX8_reckon_160 rfl rfl ?_
    refine jv_bipush (q := 164) (v := nI 16) G dX8_reckon_162 (by decide) rfl ?_
    refine jv_icmp_geN (q := 167) (tgt := 223) G dX8_reckon_164 (by decide) rfl (by omega) (by omega) (fun c1 => ?_) (fun c1 => ?_)
    · refine jv_lo [1, 2, 3, 4, 5] (lo' := [(4, .int (nI i)), (3, .int (nI k)), (0, .ref x), (1, .int (nI e)), (2, .int (nI (256 * e)))]) rfl ?_
      have em : j = 16 := by omega
      rw [em] at htb
      exact hK _ hF htb
    · omega
  | succ m ih =>
    intro j h1 hm hF htb
    have hS := hF.S hS0
    have hj : j < 16 := by omega
    refine jv_iload (q := 162) G 0 dX8_reckon_160 rfl rfl ?_
    refine jv_bipush (q := 164) (v := nI 16) G dX8_reckon_162 (by decide) rfl ?_
    refine jv_icmp_geN (q := 167) (tgt := 223) G dX8_reckon_164 (by decide) rfl (by omega) (by omega) (fun c1 => ?_) (fun c1 => ?_)
    · omega
    · refine jv_aload_n (q := 168) G 3 dX8_reckon_167 rfl rfl rfl ?_
      refine jv_getQ (q := 171) G dX8_reckon_168 fl_X8_65 rfl hS.1 (rf_p20 hS) rfl ?_
      refine jv_iload_n (q := 172) G 5 dX8_reckon_171 rfl rfl rfl ?_
      refine jv_bipush (q := 174) (v := nI 16) G dX8_reckon_172 (by decide) rfl ?_
      refine jv_iload (q := 176) G 1 dX8_reckon_174 rfl rfl ?_
      refine jv_imulN (q := 177) G dX8_reckon_176 rfl ?_
      refine jv_iaddN (q := 178) G dX8_reckon_177 rfl ?_
      refine jv_iload_n (q := 179) G 2 dX8_reckon_178 rfl rfl rfl ?_
      refine jv_iaddN (q := 180) G dX8_reckon_179 rfl ?_
      refine jv_zald (q := 181) G dX8_reckon_180 (rf_a20 hS) rfl (by omega) (by decide) ((htb i k hi hk).trans (congrArg jv_bI w_p_c)) rfl ?_
      refine jv_if_eqB (q := 184) (tgt := 217) G dX8_reckon_181 (by decide) rfl (fun c2 => ?_) (fun c2 => ?_)
      · refine jv_iinc (q := 220) (lo' := [(5, .int (nI (j + 1))), (4, .int (nI i)), (3, .int (nI k)), (0, .ref x), (1, .int (nI e)), (2, .int (nI (256 * e)))]) (v := nI (j + 1)) G 0 dX8_reckon_217 rfl (nI_1 j) (by decide) rfl rfl ?_
        refine jv_goto (q := 160) G dX8_reckon_220 (by decide) ?_
        refine jv_lo [0, 1, 2, 3, 4, 5] (lo' := [(5, .int (nI (j + 1))), (4, .int (nI i)), (3, .int (nI k)), (0, .ref x), (1, .int (nI e)), (2, .int (nI (256 * e)))]) rfl ?_
        exact ih (j + 1) _ (by omega) hF (htb.cong (fun u l _ _ => w_p_n (Or.inl c2)))
      · refine jv_aload_n (q := 185) G 3 dX8_reckon_184 rfl rfl rfl ?_
        refine jv_getQ (q := 188) G dX8_reckon_185 fl_X8_65 rfl hS.1 (rf_p20 hS) rfl ?_
        refine jv_iload_n (q := 189) G 5 dX8_reckon_188 rfl rfl rfl ?_
        refine jv_bipush (q := 191) (v := nI 16) G dX8_reckon_189 (by decide) rfl ?_
        refine jv_iload_n (q := 192) G 2 dX8_reckon_191 rfl rfl rfl ?_
        refine jv_imulN (q := 193) G dX8_reckon_192 rfl ?_
        refine jv_iaddN (q := 194) G dX8_reckon_193 rfl ?_
        refine jv_iload (q := 196) G 0 dX8_reckon_194 rfl rfl ?_
        refine jv_iaddN (q := 197) G dX8_reckon_196 rfl ?_
        refine jv_zald (q := 198) G dX8_reckon_197 (rf_a20 hS) rfl (by omega) (by decide) ((htb k j hk hj).trans (congrArg jv_bI w_p_r)) rfl ?_
        refine jv_if_eqB (q := 201) (tgt := 217) G dX8_reckon_198 (by decide) rfl (fun c3 => ?_) (fun c3 => ?_)
        · refine jv_iinc (q := 220) (lo' := [(5, .int (nI (j + 1))), (4, .int (nI i)), (3, .int (nI k)), (0, .ref x), (1, .int (nI e)), (2, .int (nI (256 * e)))]) (v := nI (j + 1)) G 0 dX8_reckon_217 rfl (nI_1 j) (by decide) rfl rfl ?_
          refine jv_goto (q := 160) G dX8_reckon_220 (by decide) ?_
          refine jv_lo [0, 1, 2, 3, 4, 5] (lo' := [(5, .int (nI (j + 1))), (4, .int (nI i)), (3, .int (nI k)), (0, .ref x), (1, .int (nI e)), (2, .int (nI (256 * e)))]) rfl ?_
          exact ih (j + 1) _ (by omega) hF (htb.cong (fun u l _ _ => w_p_n (Or.inr c3)))
        · refine jv_aload_n (q := 202) G 3 dX8_reckon_201 rfl rfl rfl ?_
          refine jv_getQ (q := 205) G dX8_reckon_202 fl_X8_65 rfl hS.1 (rf_p20 hS) rfl ?_
          refine jv_iload_n (q := 206) G 5 dX8_reckon_205 rfl rfl rfl ?_
          refine jv_bipush (q := 208) (v := nI 16) G dX8_reckon_206 (by decide) rfl ?_
          refine jv_iload (q := 210) G 1 dX8_reckon_208 rfl rfl ?_
          refine jv_imulN (q := 211) G dX8_reckon_210 rfl ?_
          refine jv_iaddN (q := 212) G dX8_reckon_211 rfl ?_
          refine jv_iload (q := 214) G 0 dX8_reckon_212 rfl rfl ?_
          refine jv_iaddN (q := 215) G dX8_reckon_214 rfl ?_
          refine jv_iconst (q := 216) (v := nI 1) G dX8_reckon_215 (by decide) rfl ?_
          refine jv_topI (y := jv_bI true) rfl ?_
          refine jv_zast (q := 217) G dX8_reckon_216 (rf_a20 hS) rfl (by omega) (by decide) rfl ?_
          refine jv_iinc (q := 220) (lo' := [(5, .int (nI (j + 1))), (4, .int (nI i)), (3, .int (nI k)), (0, .ref x), (1, .int (nI e)), (2, .int (nI (256 * e)))]) (v := nI (j + 1)) G 0 dX8_reckon_217 rfl (nI_1 j) (by decide) rfl rfl ?_
          refine jv_goto (q := 160) G dX8_reckon_220 (by decide) ?_
          refine jv_lo [0, 1, 2, 3, 4, 5] (lo' := [(5, .int (nI (j + 1))), (4, .int (nI i)), (3, .int (nI k)), (0, .ref x), (1, .int (nI e)), (2, .int (nI (256 * e)))]) rfl ?_
          exact ih (j + 1) _ (by omega) (hF.wq hS0 (k := 20) (by decide) rfl ⟨rfl, by omega, by omega⟩ _) ((htb.set hS hi hj).cong (fun u l _ _ => w_p_y c2 c3))
set_option maxHeartbeats 4000000 in
set_option maxRecDepth 100000 in
theorem r_rk5 {E : jv_E} {x : Nat} {q : Nat → Nat} {h : jv_H} {e : Nat} {Q : State → Prop} (G : jv_C E cX8_reckon RX8 6) (hS0 : rf_S x q h) (he : e < 8) {A : Nat → Nat → Bool} {k : Nat} (hk : k < 16)  (hK : ∀ h2, FW (fun k j => k = 20 ∧ 256 * e ≤ j ∧ j < 256 * e + 256) (fun _ => False) x q h h2 → tb q h2 e (w_p A k 16 0) → jv_V E 6 h2 0 0 Q 229 [(3, .int (nI k)), (0, .ref x), (1, .int (nI e)), (2, .int (nI (256 * e)))] []) : ∀ (m i : Nat) (h1 : jv_H), i + m = 16 → FW (fun k j => k = 20 ∧ 256 * e ≤ j ∧ j < 256 * e + 256) (fun _ => False) x q h h1 → tb q h1 e (w_p A k i 0) → jv_V E 6 h1 0 0 Q 150 [(4, .int (nI i)), (3, .int (nI k)), (0, .ref x), (1, .int (nI e)), (2, .int (nI (256 * e)))] [] := by
  intro m
  induction m with
  | zero =>
    intro i h1 hm hF htb
    have hS := hF.S hS0
    refine jv_iload (q := 152) G 0 dX8_reckon_150 rfl rfl ?_
    refine jv_bipush (q := 154) (v := nI 16) G dX8_reckon_152 (by decide) rfl ?_
    refine jv_icmp_geN (q := 157) (tgt := 229) G dX8_reckon_154 (by decide) rfl (by omega) (by omega) (fun c1 => ?_) (fun c1 => ?_)
    · refine jv_lo [1, 2, 3, 4] (lo' := [(3, .int (nI k)), (0, .ref x), (1, .int (nI e)), (2, .int (nI (256 * e)))]) rfl ?_
      have em : i = 16 := by omega
      rw [em] at htb
      exact hK _ hF htb
    · omega
  | succ m ih =>
    intro i h1 hm hF htb
    have hS := hF.S hS0
    refine jv_iload (q := 152) G 0 dX8_reckon_150 rfl rfl ?_
    refine jv_bipush (q := 154) (v := nI 16) G dX8_reckon_152 (by decide) rfl ?_
    refine jv_icmp_geN (q := 157) (tgt := 229) G dX8_reckon_154 (by decide) rfl (by omega) (by omega) (fun c1 => ?_) (fun c1 => ?_)
    · omega
    · refine jv_iconst (q := 158) (v := nI 0) G dX8_reckon_157 (by decide) rfl ?_
      refine jv_istore (q := 160) (lo' := [(5, .int (nI 0)), (4, .int (nI i)), (3, .int (nI k)), (0, .ref x), (1, .int (nI e)), (2, .int (nI (256 * e)))]) G dX8_reckon_158 (by decide) rfl rfl ?_
      refine jv_lo [0, 1, 2, 3, 4, 5] (lo' := [(5, .int (nI 0)), (4, .int (nI i)), (3, .int (nI k)), (0, .ref x), (1, .int (nI e)), (2, .int (nI (256 * e)))]) rfl ?_
      refine r_rk4 G hS0 he hk (by omega) (fun h2 hF2 ht2 => ?_) 16 0 _ (by omega) hF htb
      refine jv_iinc (q := 226) (lo' := [(4, .int (nI (i + 1))), (3, .int (nI k)), (0, .ref x), (1, .int (nI e)), (2, .int (nI (256 * e)))]) (v := nI (i + 1)) G 0 dX8_reckon_223 rfl (nI_1 i) (by decide) rfl rfl ?_
      refine jv_goto (q := 150) G dX8_reckon_226 (by decide) ?_
      refine jv_lo [0, 1, 2, 3, 4] (lo' := [(4, .int (nI (i + 1))), (3, .int (nI k)), (0, .ref x), (1, .int (nI e)), (2, .int (nI (256 * e)))]) rfl ?_
      exact ih (i + 1) _ (by omega) hF2 (ht2.cong (fun u l _ hl => w_p_j hl))
set_option maxHeartbeats 4000000 in
set_option maxRecDepth 100000 in
theorem r_rk6 {E : jv_E} {x : Nat} {q : Nat → Nat} {h : jv_H} {e : Nat} {Q : State → Prop} (G : jv_C E cX8_reckon RX8 6) (hS0 : rf_S x q h) (he : e < 8) {A : Nat → Nat → Bool}  (hK : ∀ h2, FW (fun k j => k = 20 ∧ 256 * e ≤ j ∧ j < 256 * e + 256) (fun _ => False) x q h h2 → tb q h2 e (w_w A 16) → jv_V E 6 h2 0 0 Q 235 [(0, .ref x)] []) : ∀ (m k : Nat) (h1 : jv_H), k + m = 16 → FW (fun k j => k = 20 ∧ 256 * e ≤ j ∧ j < 256 * e + 256) (fun _ => False) x q h h1 → tb q h1 e (w_w A k) → jv_V E 6 h1 0 0 Q 141 [(3, .int (nI k)), (0, .ref x), (1, .int (nI e)), (2, .int (nI (256 * e)))] [] := by
  intro m
  induction m with
  | zero =>
    intro k h1 hm hF htb
    have hS := hF.S hS0
    refine jv_iload_n (q := 142) G 0 dX8_reckon_141 rfl rfl rfl ?_
    refine jv_bipush (q := 144) (v := nI 16) G dX8_reckon_142 (by decide) rfl ?_
    refine jv_icmp_geN (q := 147) (tgt := 235) G dX8_reckon_144 (by decide) rfl (by omega) (by omega) (fun c1 => ?_) (fun c1 => ?_)
    · refine jv_lo [1] (lo' := [(0, .ref x)]) rfl ?_
      have em : k = 16 := by omega
      rw [em] at htb
      exact hK _ hF htb
    · omega
  | succ m ih =>
    intro k h1 hm hF htb
    have hS := hF.S hS0
    refine jv_iload_n (q := 142) G 0 dX8_reckon_141 rfl rfl rfl ?_
    refine jv_bipush (q := 144) (v := nI 16) G dX8_reckon_142 (by decide) rfl ?_
    refine jv_icmp_geN (q := 147) (tgt := 235) G dX8_reckon_144 (by decide) rfl (by omega) (by omega) (fun c1 => ?_) (fun c1 => ?_)
    · omega
    · refine jv_iconst (q := 148) (v := nI 0) G dX8_reckon_147 (by decide) rfl ?_
      refine jv_istore (q := 150) (lo' := [(4, .int (nI 0)), (3, .int (nI k)), (0, .ref x), (1, .int (nI e)), (2, .int (nI (256 * e)))]) G dX8_reckon_148 (by decide) rfl rfl ?_
      refine jv_lo [0, 1, 2, 3, 4] (lo' := [(4, .int (nI 0)), (3, .int (nI k)), (0, .ref x), (1, .int (nI e)), (2, .int (nI (256 * e)))]) rfl ?_
      refine r_rk5 G hS0 he (by omega) (fun h2 hF2 ht2 => ?_) 16 0 _ (by omega) hF (htb.cong (fun u l _ _ => w_p_0))
      refine jv_iinc (q := 232) (lo' := [(3, .int (nI (k + 1))), (0, .ref x), (1, .int (nI e)), (2, .int (nI (256 * e)))]) (v := nI (k + 1)) G 0 dX8_reckon_229 rfl (nI_1 k) (by decide) rfl rfl ?_
      refine jv_goto (q := 141) G dX8_reckon_232 (by decide) ?_
      refine jv_lo [0, 1, 2, 3] (lo' := [(3, .int (nI (k + 1))), (0, .ref x), (1, .int (nI e)), (2, .int (nI (256 * e)))]) rfl ?_
      exact ih (k + 1) _ (by omega) hF2 (ht2.cong (fun u l hu _ => w_p_k hu))
set_option maxHeartbeats 4000000 in
set_option maxRecDepth 100000 in
theorem r_reckon {lA : Launch} (hlt : lA.stackTraces = false) {D : jv_D} {base : Nat} {x : Nat} {q : Nat → Nat} {h : jv_H} {e : Nat} {ts : List mT} (hS : rf_S x q h) (he : e < 8) (hE : rf_E q h e ts) (hb : m_b16 ts) (hq : m_uq ts) : jv_Met lA D base yX8_reckon (.code yX8_reckon cX8_reckon 6 none) 1 0 0 [.ref x, .int (nI e)] h (fun v h' => v = none ∧ FW (fun k j => k = 20 ∧ 256 * e ≤ j ∧ j < 256 * e + 256) (fun _ => False) x q h h' ∧ rf_V q h' e ts) jv_no := by
  refine jv_ofV (lo := [(0, .ref x), (1, .int (nI e))]) hlt (by decide) (Nat.le_of_ble_eq_true rfl) rfl (fun E hEl hEd hEz Z G hr ht hnm => ?_)
  subst hEl; subst hEd; subst hEz
  have hl10 := hE.2.1
  refine jv_sipush (q := 3) (v := nI 256) G dX8_reckon_0 (by decide) rfl ?_
  refine jv_iload_n (q := 4) G 1 dX8_reckon_3 rfl rfl rfl ?_
  refine jv_imulN (q := 5) G dX8_reckon_4 rfl ?_
  refine jv_istore_n (q := 6) (lo' := [(2, .int (nI (256 * e))), (0, .ref x), (1, .int (nI e))]) G dX8_reckon_5 rfl (by decide) rfl rfl ?_
  refine jv_iconst (q := 7) (v := nI 0) G dX8_reckon_6 (by decide) rfl ?_
  refine jv_istore_n (q := 8) (lo' := [(3, .int (nI 0)), (2, .int (nI (256 * e))), (0, .ref x), (1, .int (nI e))]) G dX8_reckon_7 rfl (by decide) rfl rfl ?_
  refine jv_lo [0, 2, 3, 1] (lo' := [(3, .int (nI 0)), (0, .ref x), (1, .int (nI e)), (2, .int (nI (256 * e)))]) rfl ?_
  refine r_rk1 G hS he (fun h2 hF2 hz2 => ?_) 256 0 _ (by omega) FW.rf (fun j hj => by omega)
  have ht2 : tb q h2 e (w_e ts 0) := fun u l hu hl => by rw [show 256 * e + 16 * u + l = 256 * e + (16 * u + l) by omega]; exact hz2 _ (by omega)
  refine jv_bipush (q := 32) (v := nI 10) G dX8_reckon_30 (by decide) rfl ?_
  refine jv_iload_n (q := 33) G 1 dX8_reckon_32 rfl rfl rfl ?_
  refine jv_imulN (q := 34) G dX8_reckon_33 rfl ?_
  refine jv_istore_n (q := 35) (lo' := [(3, .int (nI (10 * e))), (0, .ref x), (1, .int (nI e)), (2, .int (nI (256 * e)))]) G dX8_reckon_34 rfl (by decide) rfl rfl ?_
  show jv_V E 6 h2 0 0 (jv_Q E (fun v h' => v = none ∧ FW (fun k j => k = 20 ∧ 256 * e ≤ j ∧ j < 256 * e + 256) (fun _ => False) x q h h' ∧ rf_V q h' e ts) jv_no 0 0) 35 [(3, .int (nI (10 * e + 0))), (0, .ref x), (1, .int (nI e)), (2, .int (nI (256 * e)))] []
  refine jv_lo [0, 1, 2, 3] (lo' := [(3, .int (nI (10 * e + 0))), (0, .ref x), (1, .int (nI e)), (2, .int (nI (256 * e)))]) rfl ?_
  refine r_rk3 G hS he hE (fun h3 hF3 ht3 => ?_) ts.length 0 _ (by omega) hF2 ht2
  refine jv_iconst (q := 140) (v := nI 0) G dX8_reckon_139 (by decide) rfl ?_
  refine jv_istore_n (q := 141) (lo' := [(3, .int (nI 0)), (0, .ref x), (1, .int (nI e)), (2, .int (nI (256 * e)))]) G dX8_reckon_140 rfl (by decide) rfl rfl ?_
  refine jv_lo [0, 1, 2, 3] (lo' := [(3, .int (nI 0)), (0, .ref x), (1, .int (nI e)), (2, .int (nI (256 * e)))]) rfl ?_
  refine r_rk6 (A := w_e ts ts.length) G hS he (fun h4 hF4 ht4 => ?_) 16 0 _ (by omega) hF3 ht3
  refine jv_vret G hr dX8_reckon_235 (Nat.le_of_ble_eq_true rfl) (Nat.le_of_ble_eq_true rfl) ?_
  exact ⟨rfl, hF4, fun u l hu hl => (ht4 u l hu hl).trans (congrArg jv_bI (w_abv hb hq u l))⟩
