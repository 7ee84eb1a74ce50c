theorem cl_m1 : Cond.constantLong "LinkArchive$Comparison" 83 (-1) ∈ jv_TB := jv_p1 943 (by decide +kernel) rfl
theorem jv_ldc2 {E : jv_E} {cc : ByteArray} {own : String} {nL : Nat} {h : jv_H} {ce sl : Nat} {Q : State → Prop} {pc q : Nat} {lo : List (Nat × Value)} {st : List Value} (G : jv_C E cc own nL) {idx : Nat} {v : Int64} (hd : decode cc pc = .ok (.ldc2_w idx, 3)) (hw : Cond.constantLong own idx v ∈ jv_TB) (hp : pc + 3 = q) (kk : jv_V E nL h ce sl Q q lo (.long v :: st)) : jv_V E nL h ce sl Q pc lo st := by
  subst hp
  exact fun H locs ls hR hS hl => lv_ldc2 G.1 G.2.1 G.2.2.2.1 (G.2.2.2.2.1 _ hw) hd (kk H locs ls hR hS hl)
/-! the keys of the class and the keys of the differences -/
def wk (w : Bool) (K : Nat) : Nat := (if w then 64 else 0) + K
theorem oc_kj {t : mT} (ho : mt_ok t) {w : Bool} {K : Nat} (hK : K < 64) : m_oc t w (some K) = m_kj t (wk w K) := by
  unfold m_oc m_kj m_own
  congr 1
  funext j
  cases hj : (mt_m t)[j]? with
  | none => rfl
  | some m =>
    have hm := ho.2.2.2.2.2.2 m (List.mem_of_getElem? hj)
    have h1 := hm.1
    have h2 := hm.2.1
    show decide (mm_w m = w ∧ some (4 * mm_n m + mm_s m) = some K) = m_ownT _ _ _ m
    unfold m_ownT
    rw [decide_eq_decide]
    have hwk : wk w K < 128 := by unfold wk; split <;> omega
    constructor
    · rintro ⟨e1, e2⟩
      have e2 := Option.some.inj e2
      refine kk_to hm ?_
      unfold kk wk
      rw [e1]; omega
    · intro e
      have e3 := kk_of hm hwk e.1 e.2.1 e.2.2
      unfold kk wk at e3
      cases hw : mm_w m <;> cases w <;> simp [hw] at e3 ⊢ <;> omega
theorem ks_bit {w : Bool} {K : Nat} : ∀ {l : List mM}, (∀ (i j : Nat) m m', l[i]? = some m → l[j]? = some m' → kk m = kk m' → i = j) → ((m_ks w l).testBit K = true ↔ ∃ m ∈ l, mm_w m = w ∧ 4 * mm_n m + mm_s m = K)
  | [], _ => by simp [m_ks]
  | m :: l, hu => by
    have hu2 : ∀ (i j : Nat) m' m'', l[i]? = some m' → l[j]? = some m'' → kk m' = kk m'' → i = j := fun i j m' m'' h1 h2 h3 => by
      have := hu (i + 1) (j + 1) m' m'' (by simpa using h1) (by simpa using h2) h3
      omega
    have ih := ks_bit (w := w) (K := K) hu2
    rw [m_ks, Nat.testBit_xor]
    by_cases hc : mm_w m = w ∧ 4 * mm_n m + mm_s m = K
    · have hno : (m_ks w l).testBit K = false := by
        cases hb : (m_ks w l).testBit K with
        | false => rfl
        | true =>
          obtain ⟨m', h1, h2, h3⟩ := ih.mp hb
          obtain ⟨j, hj⟩ := List.getElem?_of_mem h1
          have := hu 0 (j + 1) m m' (by simp) (by simpa using hj) (by unfold kk; rw [hc.1, h2]; omega)
          omega
      rw [if_pos hc.1, hc.2, hno, Nat.testBit_two_pow_self]
      simp
      exact Or.inl hc
    · have h0 : (if mm_w m = w then 2 ^ (4 * mm_n m + mm_s m) else 0).testBit K = false := by
        by_cases hw : mm_w m = w
        · rw [if_pos hw, Nat.testBit_two_pow_of_ne (fun e => hc ⟨hw, e⟩)]
        · rw [if_neg hw, Nat.zero_testBit]
      rw [h0, Bool.false_xor, ih]
      simp [hc]
theorem has_kj {t : mT} (ho : mt_ok t) (hu : m_uk t) {w : Bool} {K : Nat} (hK : K < 64) : m_has t w (some K) = (m_kj t (wk w K)).isSome := by
  show (m_ks w (mt_m t)).testBit K = _
  have hwk : wk w K < 128 := by unfold wk; split <;> omega
  cases hj : m_kj t (wk w K) with
  | none =>
    cases hb : (m_ks w (mt_m t)).testBit K with
    | false => rfl
    | true =>
      obtain ⟨m, h1, h2, h3⟩ := (ks_bit hu).mp hb
      obtain ⟨j, hj2⟩ := List.getElem?_of_mem h1
      exact absurd (by unfold kk wk; rw [h2]; omega) (kj_none ho hj j m hj2)
  | some j =>
    obtain ⟨m, h1, h2⟩ := kj_some ho hwk hj
    refine (ks_bit hu).mpr ⟨m, List.mem_of_getElem? h1, ?_⟩
    have hm := ho.2.2.2.2.2.2 m (List.mem_of_getElem? h1)
    have q1 := hm.1
    have q2 := hm.2.1
    unfold kk wk at h2
    cases hw : mm_w m <;> cases w <;> simp [hw] at h2 ⊢ <;> omega
set_option maxHeartbeats 4000000 in
set_option maxRecDepth 100000 in
theorem k_fillI_loop {E : jv_E} {Q : State → Prop} {h : jv_H} {a n : Nat} {v : Int32} (hs : jv_sh h a = some (.inr (.int, n))) (hn31 : n < 2 ^ 31) (G : jv_C E cJ7_fill_53178 RJ7 4) (hk : ∀ h2, cF (fun b => b = a) h h2 → (∀ j, jv_L h2 a j = jv_L h a j) → (∀ j, j < n → jv_I h2 a j = v) → jv_V E 4 h2 0 0 Q 20 [] []) : ∀ (m i : Nat) (h1 : jv_H), i + m = n → cF (fun b => b = a) h h1 → (∀ j, jv_L h1 a j = jv_L h a j) → (∀ j, j < i → jv_I h1 a j = v) → jv_V E 4 h1 0 0 Q 5 [(2, .int (nI i)), (0, .ref a), (1, .int v), (3, .int (nI n))] [] := by
  intro m
  induction m with
  | zero =>
    intro i h1 hm hF hO hi
    have hs1 := (congrFun hF.1 a).trans hs
    refine jv_iload_n (q := 6) G 0 dJ7_fill_53178_5 rfl rfl rfl ?_
    refine jv_iload_n (q := 7) G 3 dJ7_fill_53178_6 rfl rfl rfl ?_
    refine jv_icmp_geN (q := 10) (tgt := 20) G dJ7_fill_53178_7 (by decide) rfl (by omega) (by omega) (fun c1 => ?_) (fun c1 => ?_)
    · refine jv_lo [] (lo' := []) rfl ?_
      exact hk _ hF hO (fun j hj => hi j (by omega))
    · omega
  | succ m ih =>
    intro i h1 hm hF hO hi
    have hs1 := (congrFun hF.1 a).trans hs
    refine jv_iload_n (q := 6) G 0 dJ7_fill_53178_5 rfl rfl rfl ?_
    refine jv_iload_n (q := 7) G 3 dJ7_fill_53178_6 rfl rfl rfl ?_
    refine jv_icmp_geN (q := 10) (tgt := 20) G dJ7_fill_53178_7 (by decide) rfl (by omega) (by omega) (fun c1 => ?_) (fun c1 => ?_)
    · omega
    · refine jv_aload_n (q := 11) G 1 dJ7_fill_53178_10 rfl rfl rfl ?_
      refine jv_iload_n (q := 12) G 0 dJ7_fill_53178_11 rfl rfl rfl ?_
      refine jv_iload_n (q := 13) G 2 dJ7_fill_53178_12 rfl rfl rfl ?_
      refine jv_iast (q := 14) G dJ7_fill_53178_13 hs1 rfl (by omega) hn31 rfl ?_
      refine jv_iinc (q := 17) (lo' := [(2, .int (nI (i + 1))), (0, .ref a), (1, .int v), (3, .int (nI n))]) (v := nI (i + 1)) G 0 dJ7_fill_53178_14 rfl (nI_1 i) (by decide) rfl rfl ?_
      refine jv_goto (q := 5) G dJ7_fill_53178_17 (by decide) ?_
      refine jv_lo [0, 1, 2, 3] (lo' := [(2, .int (nI (i + 1))), (0, .ref a), (1, .int v), (3, .int (nI n))]) rfl ?_
      refine ih (i + 1) _ (by omega) (hF.wI rfl _ _) hO (fun j hj => ?_)
      rw [oI_o]
      by_cases q : j = i
      · rw [if_pos q]
      · rw [if_neg q]; exact hi j (by omega)
set_option maxHeartbeats 4000000 in
set_option maxRecDepth 100000 in
theorem k_fillI {lA : Launch} (hlt : lA.stackTraces = false) {D : jv_D} {base : Nat} {h : jv_H} {a n : Nat} {v : Int32} (hs : jv_sh h a = some (.inr (.int, n))) (hn31 : n < 2 ^ 31) : jv_Met lA D base yJ7_fill_53178 (.code yJ7_fill_53178 cJ7_fill_53178 4 none) 1 0 0 [.ref a, .int v] h (fun y h' => y = none ∧ cF (fun b => b = a) h h' ∧ (∀ j, jv_L h' a j = jv_L h a j) ∧ ∀ j, j < n → jv_I h' a j = v) jv_no := by
  refine jv_ofV (lo := [(0, .ref a), (1, .int v)]) hlt (by decide) (Nat.le_of_ble_eq_true rfl) rfl (fun E hEl hEd hEz Z G hr ht hnm => ?_)
  subst hEl; subst hEd; subst hEz
  refine jv_iconst (q := 1) (v := nI 0) G dJ7_fill_53178_0 (by decide) rfl ?_
  refine jv_istore_n (q := 2) (lo' := [(2, .int (nI 0)), (0, .ref a), (1, .int v)]) G dJ7_fill_53178_1 rfl (by decide) rfl rfl ?_
  refine jv_aload_n (q := 3) G 1 dJ7_fill_53178_2 rfl rfl rfl ?_
  refine jv_alen (q := 4) G dJ7_fill_53178_3 hs rfl rfl ?_
  refine jv_istore_n (q := 5) (lo' := [(3, .int (nI n)), (2, .int (nI 0)), (0, .ref a), (1, .int v)]) G dJ7_fill_53178_4 rfl (by decide) rfl rfl ?_
  refine jv_lo [1, 2, 3, 0] (lo' := [(2, .int (nI 0)), (0, .ref a), (1, .int v), (3, .int (nI n))]) rfl ?_
  refine k_fillI_loop hs hn31 G (fun h2 hF hO hi => ?_) n 0 _ (by omega) cF.rf (fun j => rfl) (fun j hj => by omega)
  refine jv_vret G hr dJ7_fill_53178_20 (Nat.le_of_ble_eq_true rfl) (Nat.le_of_ble_eq_true rfl) ?_
  exact ⟨rfl, hF, hO, hi⟩
set_option maxHeartbeats 4000000 in
set_option maxRecDepth 100000 in
theorem k_fillL_loop {E : jv_E} {Q : State → Prop} {h : jv_H} {a n : Nat} {v : Int64} (hs : jv_sh h a = some (.inr (.long, n))) (hn31 : n < 2 ^ 31) (G : jv_C E cJ7_fill_d0a16 RJ7 5) (hk : ∀ h2, cF (fun b => b = a) h h2 → (∀ j, jv_I h2 a j = jv_I h a j) → (∀ j, j < n → jv_L h2 a j = v) → jv_V E 5 h2 0 0 Q 22 [] []) : ∀ (m i : Nat) (h1 : jv_H), i + m = n → cF (fun b => b = a) h h1 → (∀ j, jv_I h1 a j = jv_I h a j) → (∀ j, j < i → jv_L h1 a j = v) → jv_V E 5 h1 0 0 Q 6 [(3, .int (nI i)), (0, .ref a), (1, .long v), (4, .int (nI n))] [] := by
  intro m
  induction m with
  | zero =>
    intro i h1 hm hF hO hi
    have hs1 := (congrFun hF.1 a).trans hs
    refine jv_iload_n (q := 7) G 0 dJ7_fill_d0a16_6 rfl rfl rfl ?_
    refine jv_iload (q := 9) G 3 dJ7_fill_d0a16_7 rfl rfl ?_
    refine jv_icmp_geN (q := 12) (tgt := 22) G dJ7_fill_d0a16_9 (by decide) rfl (by omega) (by omega) (fun c1 => ?_) (fun c1 => ?_)
    · refine jv_lo [] (lo' := []) rfl ?_
      exact hk _ hF hO (fun j hj => hi j (by omega))
    · omega
  | succ m ih =>
    intro i h1 hm hF hO hi
    have hs1 := (congrFun hF.1 a).trans hs
    refine jv_iload_n (q := 7) G 0 dJ7_fill_d0a16_6 rfl rfl rfl ?_
    refine jv_iload (q := 9) G 3 dJ7_fill_d0a16_7 rfl rfl ?_
    refine jv_icmp_geN (q := 12) (tgt := 22) G dJ7_fill_d0a16_9 (by decide) rfl (by omega) (by omega) (fun c1 => ?_) (fun c1 => ?_)
    · omega
    · refine jv_aload_n (q := 13) G 1 dJ7_fill_d0a16_12 rfl rfl rfl ?_
      refine jv_iload_n (q := 14) G 0 dJ7_fill_d0a16_13 rfl rfl rfl ?_
      refine jv_lload_n (q := 15) G 2 dJ7_fill_d0a16_14 rfl rfl rfl ?_
      refine jv_last (q := 16) G dJ7_fill_d0a16_15 hs1 rfl (by omega) hn31 rfl ?_
      refine jv_iinc (q := 19) (lo' := [(3, .int (nI (i + 1))), (0, .ref a), (1, .long v), (4, .int (nI n))]) (v := nI (i + 1)) G 0 dJ7_fill_d0a16_16 rfl (nI_1 i) (by decide) rfl rfl ?_
      refine jv_goto (q := 6) G dJ7_fill_d0a16_19 (by decide) ?_
      refine jv_lo [0, 1, 2, 3] (lo' := [(3, .int (nI (i + 1))), (0, .ref a), (1, .long v), (4, .int (nI n))]) rfl ?_
      refine ih (i + 1) _ (by omega) (hF.wL rfl _ _) hO (fun j hj => ?_)
      rw [oL_o]
      by_cases q : j = i
      · rw [if_pos q]
      · rw [if_neg q]; exact hi j (by omega)
set_option maxHeartbeats 4000000 in
set_option maxRecDepth 100000 in
theorem k_fillL {lA : Launch} (hlt : lA.stackTraces = false) {D : jv_D} {base : Nat} {h : jv_H} {a n : Nat} {v : Int64} (hs : jv_sh h a = some (.inr (.long, n))) (hn31 : n < 2 ^ 31) : jv_Met lA D base yJ7_fill_d0a16 (.code yJ7_fill_d0a16 cJ7_fill_d0a16 5 none) 1 0 0 [.ref a, .long v] h (fun y h' => y = none ∧ cF (fun b => b = a) h h' ∧ (∀ j, jv_I h' a j = jv_I h a j) ∧ ∀ j, j < n → jv_L h' a j = v) jv_no := by
  refine jv_ofV (lo := [(0, .ref a), (1, .long v)]) hlt (by decide) (Nat.le_of_ble_eq_true rfl) rfl (fun E hEl hEd hEz Z G hr ht hnm => ?_)
  subst hEl; subst hEd; subst hEz
  refine jv_iconst (q := 1) (v := nI 0) G dJ7_fill_d0a16_0 (by decide) rfl ?_
  refine jv_istore_n (q := 2) (lo' := [(3, .int (nI 0)), (0, .ref a), (1, .long v)]) G dJ7_fill_d0a16_1 rfl (by decide) rfl rfl ?_
  refine jv_aload_n (q := 3) G 1 dJ7_fill_d0a16_2 rfl rfl rfl ?_
  refine jv_alen (q := 4) G dJ7_fill_d0a16_3 hs rfl rfl ?_
  refine jv_istore (q := 6) (lo' := [(4, .int (nI n)), (3, .int (nI 0)), (0, .ref a), (1, .long v)]) G dJ7_fill_d0a16_4 (by decide) rfl rfl ?_
  refine jv_lo [1, 2, 3, 0] (lo' := [(3, .int (nI 0)), (0, .ref a), (1, .long v), (4, .int (nI n))]) rfl ?_
  refine k_fillL_loop hs hn31 G (fun h2 hF hO hi => ?_) n 0 _ (by omega) cF.rf (fun j => rfl) (fun j hj => by omega)
  refine jv_vret G hr dJ7_fill_d0a16_22 (Nat.le_of_ble_eq_true rfl) (Nat.le_of_ble_eq_true rfl) ?_
  exact ⟨rfl, hF, hO, hi⟩
set_option maxHeartbeats 4000000 in
set_option maxRecDepth 100000 in
theorem k_rowOf {lA : Launch} (hlt : lA.stackTraces = false) {D : jv_D} {base : Nat} {h : jv_H} {u : Nat} {w : Bool} : jv_Met lA D base yX1_rowOf (.code yX1_rowOf cX1_rowOf 2 (some .int)) 1 0 0 [.int (nI u), .int (jv_bI w)] h (jv_rI (nI (2 * u + (if w then 1 else 0))) h) jv_no := by
  refine jv_ofV (lo := [(0, .int (nI u)), (1, .int (jv_bI w))]) hlt (by decide) (Nat.le_of_ble_eq_true rfl) rfl (fun E hEl hEd hEz Z G hr ht hnm => ?_)
  subst hEl; subst hEd; subst hEz
  refine jv_iload_n (q := 1) G 0 dX1_rowOf_0 rfl rfl rfl ?_
  refine jv_iconst (q := 2) (v := nI 2) G dX1_rowOf_1 (by decide) rfl ?_
  refine jv_imulN (q := 3) G dX1_rowOf_2 rfl ?_
  refine jv_iload_n (q := 4) G 1 dX1_rowOf_3 rfl rfl rfl ?_
  refine jv_if_eqB (q := 7) (tgt := 11) G dX1_rowOf_4 (by decide) rfl (fun c1 => ?_) (fun c1 => ?_)
  · refine jv_iconst (q := 12) (v := nI 0) G dX1_rowOf_11 (by decide) rfl ?_
    refine jv_iaddN (q := 13) G dX1_rowOf_12 rfl ?_
    refine jv_iret G hr dX1_rowOf_13 (Nat.le_of_ble_eq_true rfl) (Nat.le_of_ble_eq_true rfl) ?_
    refine ⟨?_, rfl⟩; rw [c1]; exact congrArg (fun z => some (Value.int (nI z))) (by simp; omega)
  · refine jv_iconst (q := 8) (v := nI 1) G dX1_rowOf_7 (by decide) rfl ?_
    refine jv_goto (q := 12) G dX1_rowOf_8 (by decide) ?_
    refine jv_iaddN (q := 13) G dX1_rowOf_12 rfl ?_
    refine jv_iret G hr dX1_rowOf_13 (Nat.le_of_ble_eq_true rfl) (Nat.le_of_ble_eq_true rfl) ?_
    refine ⟨?_, rfl⟩; rw [c1]; exact congrArg (fun z => some (Value.int (nI z))) (by simp; omega)
set_option maxHeartbeats 4000000 in
set_option maxRecDepth 100000 in
theorem k_spotOf {lA : Launch} (hlt : lA.stackTraces = false) {D : jv_D} {base : Nat} {h : jv_H} {u K : Nat} {w : Bool} : jv_Met lA D base yX1_spotOf (.code yX1_spotOf cX1_spotOf 3 (some .int)) 2 0 0 [.int (nI u), .int (jv_bI w), .int (nI K)] h (jv_rI (nI (128 * u + wk w K)) h) jv_no := by
  refine jv_ofV (lo := [(0, .int (nI u)), (1, .int (jv_bI w)), (2, .int (nI K))]) hlt (by decide) (Nat.le_of_ble_eq_true rfl) rfl (fun E hEl hEd hEz Z G hr ht hnm => ?_)
  subst hEl; subst hEd; subst hEz
  refine jv_iload_n (q := 1) G 0 dX1_spotOf_0 rfl rfl rfl ?_
  refine jv_iload_n (q := 2) G 1 dX1_spotOf_1 rfl rfl rfl ?_
  refine jv_callS_I (q := 5) (h1 := h) (As := [.int (nI u), .int (jv_bI w)]) (rest := []) (ce' := 0) (sl' := 0) (r := nI (2 * u + (if w then 1 else 0))) G Z ml_X1_71 (k_rowOf hlt) dX1_spotOf_2 rfl (by decide) (by decide) (by decide) (by decide) (Nat.le_of_ble_eq_true rfl) rfl rfl rfl rfl ?_
  refine jv_bipush (q := 7) (v := nI 64) G dX1_spotOf_5 (by decide) rfl ?_
  refine jv_imulN (q := 8) G dX1_spotOf_7 rfl ?_
  refine jv_iload_n (q := 9) G 2 dX1_spotOf_8 rfl rfl rfl ?_
  refine jv_iaddN (q := 10) G dX1_spotOf_9 rfl ?_
  refine jv_iret G hr dX1_spotOf_10 (Nat.le_of_ble_eq_true rfl) (Nat.le_of_ble_eq_true rfl) ?_
  refine ⟨?_, rfl⟩; exact congrArg (fun z => some (Value.int (nI z))) (by unfold wk; cases w <;> simp <;> omega)
set_option maxHeartbeats 4000000 in
set_option maxRecDepth 100000 in
theorem k_areAkin {lA : Launch} (hlt : lA.stackTraces = false) {D : jv_D} {base : Nat} {z : Nat → Nat → Nat} {T : Nat → Nat} {N : Nat → Nat → Nat} {h : jv_H} {a b : Nat} {A B : List mT} {UA UB : Nat → List Nat} (hA : cv_E z T N h a A) (hB : cv_E z T N h b B) (uA : cv_Us z T h a A UA) (uB : cv_Us z T h b B UB) (nA : ∀ u l, u < 16 → l < 16 → c_ha A UA (nI u) (nI l) = m_abv A u l) (nB : ∀ u l, u < 16 → l < 16 → c_ha B UB (nI u) (nI l) = m_abv B u l) {t u : Nat} (ht : t < 16) (hu : u < 16) : jv_Met lA D base yX1_areAkin (.code yX1_areAkin cX1_areAkin 4 (some .boolean)) 3 0 0 [.ref (z 0 a), .ref (z 0 b), .int (nI t), .int (nI u)] h (jv_rI (jv_bI (m_near A B t u)) h) jv_no := by
  refine jv_ofV (lo := [(0, .ref (z 0 a)), (1, .ref (z 0 b)), (2, .int (nI t)), (3, .int (nI u))]) hlt (by decide) (Nat.le_of_ble_eq_true rfl) rfl (fun E hEl hEd hEz Z G hr ht hnm => ?_)
  subst hEl; subst hEd; subst hEz
  refine jv_aload_n (q := 1) G 0 dX1_areAkin_0 rfl rfl rfl ?_
  refine jv_iload_n (q := 2) G 2 dX1_areAkin_1 rfl rfl rfl ?_
  refine jv_iload_n (q := 3) G 3 dX1_areAkin_2 rfl rfl rfl ?_
  refine jv_callV_I (q := 6) (h1 := h) (As := [.int (nI t), .int (nI u)]) (rest := []) (ce' := 0) (sl' := 0) (r := jv_bI (c_ha A UA (nI t) (nI u))) G Z ml_X1_118 (k_hasAbove hlt hA uA) hA.1.1 dX1_areAkin_3 rfl (by decide) (by decide) (by decide) (by decide) (Nat.le_of_ble_eq_true rfl) rfl rfl rfl rfl ?_
  refine jv_topI (y := jv_bI (m_abv A t u)) (by rw [nA t u (by omega) (by omega)]) ?_
  refine jv_if_neB (q := 9) (tgt := 36) G dX1_areAkin_6 (by decide) rfl (fun c1 => ?_) (fun c1 => ?_)
  · refine jv_iconst (q := 37) (v := nI 1) G dX1_areAkin_36 (by decide) rfl ?_
    refine jv_goto (q := 41) G dX1_areAkin_37 (by decide) ?_
    refine jv_topI (y := jv_bI true) rfl ?_
    refine jv_zret G hr dX1_areAkin_41 (Nat.le_of_ble_eq_true rfl) (Nat.le_of_ble_eq_true rfl) ?_
    refine ⟨?_, rfl⟩; unfold m_near; simp [c1]
  · refine jv_aload_n (q := 10) G 0 dX1_areAkin_9 rfl rfl rfl ?_
    refine jv_iload_n (q := 11) G 3 dX1_areAkin_10 rfl rfl rfl ?_
    refine jv_iload_n (q := 12) G 2 dX1_areAkin_11 rfl rfl rfl ?_
    refine jv_callV_I (q := 15) (h1 := h) (As := [.int (nI u), .int (nI t)]) (rest := []) (ce' := 0) (sl' := 0) (r := jv_bI (c_ha A UA (nI u) (nI t))) G Z ml_X1_118 (k_hasAbove hlt hA uA) hA.1.1 dX1_areAkin_12 rfl (by decide) (by decide) (by decide) (by decide) (Nat.le_of_ble_eq_true rfl) rfl rfl rfl rfl ?_
    refine jv_topI (y := jv_bI (m_abv A u t)) (by rw [nA u t (by omega) (by omega)]) ?_
    refine jv_if_neB (q := 18) (tgt := 36) G dX1_areAkin_15 (by decide) rfl (fun c2 => ?_) (fun c2 => ?_)
    · refine jv_iconst (q := 37) (v := nI 1) G dX1_areAkin_36 (by decide) rfl ?_
      refine jv_goto (q := 41) G dX1_areAkin_37 (by decide) ?_
      refine jv_topI (y := jv_bI true) rfl ?_
      refine jv_zret G hr dX1_areAkin_41 (Nat.le_of_ble_eq_true rfl) (Nat.le_of_ble_eq_true rfl) ?_
      refine ⟨?_, rfl⟩; unfold m_near; simp [c1, c2]
    · refine jv_aload_n (q := 19) G 1 dX1_areAkin_18 rfl rfl rfl ?_
      refine jv_iload_n (q := 20) G 2 dX1_areAkin_19 rfl rfl rfl ?_
      refine jv_iload_n (q := 21) G 3 dX1_areAkin_20 rfl rfl rfl ?_
      refine jv_callV_I (q := 24) (h1 := h) (As := [.int (nI t), .int (nI u)]) (rest := []) (ce' := 0) (sl' := 0) (r := jv_bI (c_ha B UB (nI t) (nI u))) G Z ml_X1_118 (k_hasAbove hlt hB uB) hB.1.1 dX1_areAkin_21 rfl (by decide) (by decide) (by decide) (by decide) (Nat.le_of_ble_eq_true rfl) rfl rfl rfl rfl ?_
      refine jv_topI (y := jv_bI (m_abv B t u)) (by rw [nB t u (by omega) (by omega)]) ?_
      refine jv_if_neB (q := 27) (tgt := 36) G dX1_areAkin_24 (by decide) rfl (fun c3 => ?_) (fun c3 => ?_)
      · refine jv_iconst (q := 37) (v := nI 1) G dX1_areAkin_36 (by decide) rfl ?_
        refine jv_goto (q := 41) G dX1_areAkin_37 (by decide) ?_
        refine jv_topI (y := jv_bI true) rfl ?_
        refine jv_zret G hr dX1_areAkin_41 (Nat.le_of_ble_eq_true rfl) (Nat.le_of_ble_eq_true rfl) ?_
        refine ⟨?_, rfl⟩; unfold m_near; simp [c1, c2, c3]
      · refine jv_aload_n (q := 28) G 1 dX1_areAkin_27 rfl rfl rfl ?_
        refine jv_iload_n (q := 29) G 3 dX1_areAkin_28 rfl rfl rfl ?_
        refine jv_iload_n (q := 30) G 2 dX1_areAkin_29 rfl rfl rfl ?_
        refine jv_callV_I (q := 33) (h1 := h) (As := [.int (nI u), .int (nI t)]) (rest := []) (ce' := 0) (sl' := 0) (r := jv_bI (c_ha B UB (nI u) (nI t))) G Z ml_X1_118 (k_hasAbove hlt hB uB) hB.1.1 dX1_areAkin_30 rfl (by decide) (by decide) (by decide) (by decide) (Nat.le_of_ble_eq_true rfl) rfl rfl rfl rfl ?_
        refine jv_topI (y := jv_bI (m_abv B u t)) (by rw [nB u t (by omega) (by omega)]) ?_
        refine jv_if_eqB (q := 36) (tgt := 40) G dX1_areAkin_33 (by decide) rfl (fun c4 => ?_) (fun c4 => ?_)
        · refine jv_iconst (q := 41) (v := nI 0) G dX1_areAkin_40 (by decide) rfl ?_
          refine jv_topI (y := jv_bI false) rfl ?_
          refine jv_zret G hr dX1_areAkin_41 (Nat.le_of_ble_eq_true rfl) (Nat.le_of_ble_eq_true rfl) ?_
          refine ⟨?_, rfl⟩; unfold m_near; simp [c1, c2, c3, c4]
        · refine jv_iconst (q := 37) (v := nI 1) G dX1_areAkin_36 (by decide) rfl ?_
          refine jv_goto (q := 41) G dX1_areAkin_37 (by decide) ?_
          refine jv_topI (y := jv_bI true) rfl ?_
          refine jv_zret G hr dX1_areAkin_41 (Nat.le_of_ble_eq_true rfl) (Nat.le_of_ble_eq_true rfl) ?_
          refine ⟨?_, rfl⟩; unfold m_near; simp [c1, c2, c3, c4]
