theorem jv_topL {E : jv_E} {nL : Nat} {h : jv_H} {ce sl : Nat} {Q : State → Prop} {pc : Nat} {lo : List (Nat × Value)} {st : List Value} {x y : Int64} (e : x = y) (k : jv_V E nL h ce sl Q pc lo (.long y :: st)) : jv_V E nL h ce sl Q pc lo (.long x :: st) := by rw [e]; exact k
theorem nd_L {A O : Nat} (hA : A < 2 ^ 64) : lN A &&& (lN O ^^^ (-1 : Int64)) = lN (nd A O) := by
  have h1 : (-1 : Int64) = lN (2 ^ 64 - 1) := by decide
  rw [h1, fb_xorL, fb_andL]
  congr 1
  apply Nat.eq_of_testBit_eq
  intro i
  rw [nd_bit, Nat.testBit_and, Nat.testBit_xor, Nat.testBit_two_pow_sub_one]
  by_cases hi : i < 64
  · rw [decide_eq_true hi]
    cases O.testBit i <;> rfl
  · have : A.testBit i = false := Nat.testBit_lt_two_pow (Nat.lt_of_lt_of_le hA (Nat.pow_le_pow_right (by decide) (by omega)))
    rw [this]; rfl
theorem ks_lt {w : Bool} : ∀ {l : List mM}, (∀ m ∈ l, mm_ok m) → m_ks w l < 2 ^ 64
  | [], _ => by rw [m_ks]; decide
  | m :: l, h => by
    rw [m_ks]
    refine Nat.xor_lt_two_pow ?_ (ks_lt (fun m' hm => h m' (by simp [hm])))
    have h1 := (h m (by simp)).1
    have h2 := (h m (by simp)).2.1
    split
    · exact Nat.pow_lt_pow_right (by decide) (by omega)
    · decide
theorem lN_0 {g : Nat} (hg : g < 2 ^ 64) : lN g = 0 ↔ g = 0 := by
  constructor
  · intro e
    have a1 : (lN g).toUInt64.toNat = g := by
      show (UInt64.ofNat g).toNat = _
      rw [UInt64.toNat_ofNat']
      omega
    rw [e] at a1
    exact a1.symm
  · intro e; rw [e]; rfl
theorem has_km {t : mT} (ho : mt_ok t) (hu : m_uk t) {w : Bool} {K : Nat} (hK : K < 64) : (m_ks w (mt_m t)).testBit K = (m_km (some t) (wk w K)).isSome := by
  have h1 := has_kj ho hu (w := w) hK
  have h2 : (m_ks w (mt_m t)).testBit K = (m_kj t (wk w K)).isSome := h1
  rw [h2]
  cases hj : m_kj t (wk w K) with
  | none => rw [km_n hj]; rfl
  | some j =>
    obtain ⟨o, h3, -⟩ := kj_some ho (by unfold wk; split <;> omega) hj
    rw [km_s hj h3]; rfl
theorem mvk_skip {A B : List mT} {s : mS} {t K : Nat} : ∀ {n : Nat}, (∀ j, K ≤ j → j < K + n → m_goal A B (m_mvk A B s t K).1 t j = none) → m_mvk A B s t (K + n) = m_mvk A B s t K
  | 0, _ => rfl
  | n + 1, h => by
    have ih := mvk_skip (n := n) (fun j h1 h2 => h j h1 (by omega))
    rw [show K + (n + 1) = (K + n) + 1 from rfl, m_mvk, ih]
    exact stp_n (h (K + n) (by omega) (by omega))
theorem ck_E {z : Nat → Nat → Nat} {T : Nat → Nat} {N : Nat → Nat → Nat} {h h1 : jv_H} {e : Nat} {ts : List mT} (lk : cl_k z h) (f : cF (fun y => y = z 7 8 ∨ y = z 7 9) h h1) (r : cv_E z T N h e ts) : cv_E z T N h1 e ts := by
  have nb : ∀ b s, jv_sh h b = some s → s ≠ .inr (.int, 2048) → s ≠ .inr (.long, 32) → ¬ (b = z 7 8 ∨ b = z 7 9) := fun b s hs n1 n2 q => by
    rcases q with q | q
    · rw [q, ck_s8 lk] at hs; exact n1 (Option.some.inj hs).symm
    · rw [q, ck_s9 lk] at hs; exact n2 (Option.some.inj hs).symm
  obtain ⟨⟨r1, r2, r3, r4, r5, r6, r7⟩, r8, r9, r10, r11, r12⟩ := r
  have n0 := nb _ _ r1 (by intro q; cases q) (by intro q; cases q)
  refine ⟨⟨(congrFun f.1 _).trans r1, (f.p _ _).trans r2, (congrFun f.1 _).trans r3, (f.p _ _).trans r4, (congrFun f.1 _).trans r5, (f.i n0 0).trans r6, fun k hk => (f.p _ _).trans (r7 k hk)⟩, fun k hk => f.t (r8 k hk), (f.i n0 3).trans r9, r10, fun k t ht => ?_, fun n hn => (f.p _ _).trans (r12 n hn)⟩
  obtain ⟨q, qo⟩ := r11 k t ht
  have hk : k < 10 := by have := jv_ltGet ht; omega
  have tl := r8 k hk
  have na := nb _ _ tl.1 (by intro q; cases q) (by intro q; cases q)
  have n8 := nb _ _ tl.2.2.1 (by intro q; cases q) (by intro q; cases q)
  refine ⟨⟨(f.i na 0).trans q.1, (f.i na 1).trans q.2.1, (f.i na 2).trans q.2.2.1, (f.i na 3).trans q.2.2.2.1, (f.i na 4).trans q.2.2.2.2.1, (f.i na 5).trans q.2.2.2.2.2.1, (f.i na 7).trans q.2.2.2.2.2.2.1, (f.i na 9).trans q.2.2.2.2.2.2.2.1, (f.l na 10).trans q.2.2.2.2.2.2.2.2.1, (f.l na 11).trans q.2.2.2.2.2.2.2.2.2.1, fun j v y => (f.i n8 j).trans (ct_f q y), fun j m y => ?_⟩, qo⟩
  have hj : j < 6 := by have := jv_ltGet y; have := qo.2.2.2.2.2.1; omega
  exact f.M (nb _ _ (tl.2.2.2.2.2.2.2 j hj).2 (by intro q; cases q) (by intro q; cases q)) (ct_m q y)
theorem ck_U {z : Nat → Nat → Nat} {T : Nat → Nat} {N : Nat → Nat → Nat} {h h1 : jv_H} {e : Nat} {ts : List mT} {Us : Nat → List Nat} (lk : cl_k z h) (f : cF (fun y => y = z 7 8 ∨ y = z 7 9) h h1) (hE : cv_E z T N h e ts) (r : cv_Us z T h e ts Us) : cv_Us z T h1 e ts Us := fun k hk => by
  have tl := hE.2.1 k (by have := hE.2.2.2.1; omega)
  have nb : ∀ b s, jv_sh h b = some s → s ≠ .inr (.int, 2048) → s ≠ .inr (.long, 32) → ¬ (b = z 7 8 ∨ b = z 7 9) := fun b s hs n1 n2 q => by
    rcases q with q | q
    · rw [q, ck_s8 lk] at hs; exact n1 (Option.some.inj hs).symm
    · rw [q, ck_s9 lk] at hs; exact n2 (Option.some.inj hs).symm
  obtain ⟨⟨u1, u2, u3⟩, u4⟩ := r k hk
  have na := nb _ _ tl.1 (by intro q; cases q) (by intro q; cases q)
  have n10 := nb _ _ tl.2.2.2.2.2.2.1 (by intro q; cases q) (by intro q; cases q)
  exact ⟨⟨(f.i na 13).trans u1, (f.i na 14).trans u2, fun j v y => (f.i n10 j).trans (u3 j v y)⟩, u4⟩
theorem ck_L {z : Nat → Nat → Nat} {h h1 : jv_H} {Q : Nat → Prop} (f : cF Q h h1) (lk : cl_k z h) : cl_k z h1 := ⟨(congrFun f.1 _).trans lk.1, fun k a b => ⟨(f.p _ _).trans (lk.2.1 k a b).1, (congrFun f.1 _).trans (lk.2.1 k a b).2⟩, lk.2.2⟩
set_option maxHeartbeats 4000000 in
set_option maxRecDepth 100000 in
theorem k_tms_loop {E : jv_E} {z : Nat → Nat → Nat} {T : Nat → Nat} {N : Nat → Nat → Nat} {h : jv_H} {a b : Nat} {A B : List mT} {UA UB : Nat → List Nat} (hA : cv_E z T N h a A) (hB : cv_E z T N h b B) (uA : cv_Us z T h a A UA) (uB : cv_Us z T h b B UB) (nA : ∀ u l, u < 16 → l < 16 → c_ha A UA (nI u) (nI l) = m_abv A u l) (nB : ∀ u l, u < 16 → l < 16 → c_ha B UB (nI u) (nI l) = m_abv B u l) (lk : cl_k z h) {s : mS} {kt : Nat} {t0 : mT} (ht0 : A[kt]? = some t0) (hkA : ∀ (i : Nat) t, A[i]? = some t → m_uk t) (hkB : ∀ (i : Nat) t, B[i]? = some t → m_uk t) (huA : m_uq A) {w : Bool} {g : Nat} {lt : Option mT} (hlt_ : m_ty1 B (mt_n t0) = lt) (hg64 : g < 2 ^ 64) (hgb : ∀ K, K < 64 → g.testBit K = ((m_km (some t0) (wk w K)).isSome && (m_km lt (wk w K)).isNone)) (hlt : (jv_l E).stackTraces = false) (G : jv_C E cX1_takeMoves RX1 10) (Z : jv_rm E = jv_room 5 0 0) (hr : (jv_mt E).sig.returnType = none) : ∀ (n k : Nat) (h1 : jv_H), k + n = 64 → cF (fun y => y = z 7 8 ∨ y = z 7 9) h h1 → ck_m z h1 (m_mvk A B s (mt_n t0) ((if w then 64 else 0) + k)) → jv_V E 10 h1 0 0 (jv_Q E (fun y h' => y = none ∧ cF (fun y => y = z 7 8 ∨ y = z 7 9) h h' ∧ ck_m z h' (m_mvk A B s (mt_n t0) ((if w then 64 else 0) + 64))) jv_no 0 0) 42 [(8, .int (nI k)), (0, .ref (z 6 3)), (1, .ref (z 0 a)), (2, .ref (z 0 b)), (3, .ref (T (10 * a + kt))), (4, .int (jv_bI w)), (6, .long (lN g))] [] := by
  intro n
  induction n with
  | zero =>
    intro k h1 hn hF ck
    have hA1 := ck_E lk hF hA; have hB1 := ck_E lk hF hB; have uA1 := ck_U lk hF hA uA; have uB1 := ck_U lk hF hB uB; have lk1 := ck_L hF lk
    have tyA : m_ty1 A (mt_n t0) = some t0 := ty1_s (at_iff huA hA.n16 ht0 rfl) ht0
    have lt0 := jv_ltGet ht0
    have k10t0 : kt < 10 := by have := hA1.2.2.2.1; omega
    have Ot0 := (hA1.2.2.2.2.1 kt t0 ht0).2
    have Vt0 := (hA1.2.2.2.2.1 kt t0 ht0).1
    have Yt0 := hA1.2.1 kt k10t0
    have bt0n := Ot0.1; have bt0k := Ot0.2.1
    skip
    refine jv_lload (q := 44) G 6 dX1_takeMoves_42 rfl rfl ?_
    refine jv_lconst (q := 45) (v := 0) G dX1_takeMoves_44 (by decide) rfl ?_
    refine jv_lcmp (q := 46) G dX1_takeMoves_45 rfl rfl ?_
    refine jv_if_eq (q := 49) (tgt := 100) G dX1_takeMoves_46 (by decide) rfl (fun c1 => ?_) (fun c1 => ?_)
    · refine jv_vret G hr dX1_takeMoves_100 (Nat.le_of_ble_eq_true rfl) (Nat.le_of_ble_eq_true rfl) ?_
      have hg0 : g = 0 := (lN_0 hg64).mp (lg_0.mp c1)
      refine ⟨rfl, hF, ?_⟩
      have e64 : (m_mvk A B s (mt_n t0) ((if w then 64 else 0) + 64)) = (m_mvk A B s (mt_n t0) ((if w then 64 else 0) + k)) := by
        have := mvk_skip (A := A) (B := B) (s := s) (t := mt_n t0) (K := (if w then 64 else 0) + k) (n := 64 - k) (fun j h1 h2 => by
          obtain ⟨i, rfl⟩ : ∃ i, j = (if w then 64 else 0) + i := ⟨j - (if w then 64 else 0), by omega⟩
          have hi : i < 64 := by omega
          have h9 := hgb i hi
          rw [hg0, Nat.zero_testBit] at h9
          show m_goal A B _ (mt_n t0) (wk w i) = none
          cases hx : m_km (some t0) (wk w i) with
          | none => exact goal_0 (by rw [tyA]; exact hx)
          | some m =>
            cases hy : m_km lt (wk w i) with
            | none => rw [hx, hy] at h9; simp at h9
            | some o => exact goal_1 (by rw [tyA]; exact hx) (by rw [hlt_]; exact hy))
        rw [show (if w then 64 else 0) + k + (64 - k) = (if w then 64 else 0) + 64 by omega] at this
        exact this
      rw [e64]; exact ck
    · refine jv_iload (q := 51) G 0 dX1_takeMoves_49 rfl rfl ?_
      refine jv_bipush (q := 53) (v := nI 64) G dX1_takeMoves_51 (by decide) rfl ?_
      refine jv_icmp_geN (q := 56) (tgt := 100) G dX1_takeMoves_53 (by decide) rfl (by omega) (by omega) (fun c2 => ?_) (fun c2 => ?_)
      · refine jv_vret G hr dX1_takeMoves_100 (Nat.le_of_ble_eq_true rfl) (Nat.le_of_ble_eq_true rfl) ?_
        rw [show k = 64 by omega] at ck
        exact ⟨rfl, hF, ck⟩
      · omega
  | succ n ih =>
    intro k h1 hn hF ck
    have hA1 := ck_E lk hF hA; have hB1 := ck_E lk hF hB; have uA1 := ck_U lk hF hA uA; have uB1 := ck_U lk hF hB uB; have lk1 := ck_L hF lk
    have tyA : m_ty1 A (mt_n t0) = some t0 := ty1_s (at_iff huA hA.n16 ht0 rfl) ht0
    have lt0 := jv_ltGet ht0
    have k10t0 : kt < 10 := by have := hA1.2.2.2.1; omega
    have Ot0 := (hA1.2.2.2.2.1 kt t0 ht0).2
    have Vt0 := (hA1.2.2.2.2.1 kt t0 ht0).1
    have Yt0 := hA1.2.1 kt k10t0
    have bt0n := Ot0.1; have bt0k := Ot0.2.1
    have hK : ∀ K, some k = some K → K < 64 := fun K q => by cases q; omega
    refine jv_lload (q := 44) G 6 dX1_takeMoves_42 rfl rfl ?_
    refine jv_lconst (q := 45) (v := 0) G dX1_takeMoves_44 (by decide) rfl ?_
    refine jv_lcmp (q := 46) G dX1_takeMoves_45 rfl rfl ?_
    refine jv_if_eq (q := 49) (tgt := 100) G dX1_takeMoves_46 (by decide) rfl (fun c1 => ?_) (fun c1 => ?_)
    · refine jv_vret G hr dX1_takeMoves_100 (Nat.le_of_ble_eq_true rfl) (Nat.le_of_ble_eq_true rfl) ?_
      have hg0 : g = 0 := (lN_0 hg64).mp (lg_0.mp c1)
      refine ⟨rfl, hF, ?_⟩
      have e64 : (m_mvk A B s (mt_n t0) ((if w then 64 else 0) + 64)) = (m_mvk A B s (mt_n t0) ((if w then 64 else 0) + k)) := by
        have := mvk_skip (A := A) (B := B) (s := s) (t := mt_n t0) (K := (if w then 64 else 0) + k) (n := 64 - k) (fun j h1 h2 => by
          obtain ⟨i, rfl⟩ : ∃ i, j = (if w then 64 else 0) + i := ⟨j - (if w then 64 else 0), by omega⟩
          have hi : i < 64 := by omega
          have h9 := hgb i hi
          rw [hg0, Nat.zero_testBit] at h9
          show m_goal A B _ (mt_n t0) (wk w i) = none
          cases hx : m_km (some t0) (wk w i) with
          | none => exact goal_0 (by rw [tyA]; exact hx)
          | some m =>
            cases hy : m_km lt (wk w i) with
            | none => rw [hx, hy] at h9; simp at h9
            | some o => exact goal_1 (by rw [tyA]; exact hx) (by rw [hlt_]; exact hy))
        rw [show (if w then 64 else 0) + k + (64 - k) = (if w then 64 else 0) + 64 by omega] at this
        exact this
      rw [e64]; exact ck
    · refine jv_iload (q := 51) G 0 dX1_takeMoves_49 rfl rfl ?_
      refine jv_bipush (q := 53) (v := nI 64) G dX1_takeMoves_51 (by decide) rfl ?_
      refine jv_icmp_geN (q := 56) (tgt := 100) G dX1_takeMoves_53 (by decide) rfl (by omega) (by omega) (fun c2 => ?_) (fun c2 => ?_)
      · omega
      · refine jv_lload (q := 58) G 6 dX1_takeMoves_56 rfl rfl ?_
        refine jv_iload (q := 60) G 0 dX1_takeMoves_58 rfl rfl ?_
        refine jv_callSN_I (q := 63) (h1 := h1) (As := [.long (lN g), .int (nI k)]) (rest := []) (ce' := 0) (sl' := 0) (r := jv_bI (g.testBit k)) G Z ml_X1_85 (jv_p1 746 (by decide +kernel) rfl) (k_hasBit hlt (by omega)) dX1_takeMoves_60 rfl (by decide) (by decide) (by decide) (by decide) (Nat.le_of_ble_eq_true rfl) rfl rfl rfl rfl ?_
        refine jv_if_eqB (q := 66) (tgt := 77) G dX1_takeMoves_63 (by decide) rfl (fun c3 => ?_) (fun c3 => ?_)
        · refine jv_null (q := 78) G dX1_takeMoves_77 rfl ?_
          refine jv_astoreR (q := 80) (lo' := [(9, va_rf none), (8, .int (nI k)), (0, .ref (z 6 3)), (1, .ref (z 0 a)), (2, .ref (z 0 b)), (3, .ref (T (10 * a + kt))), (4, .int (jv_bI w)), (6, .long (lN g))]) (x := none) G dX1_takeMoves_78 (by decide) rfl rfl ?_
          refine jv_aloadR (q := 82) G 0 dX1_takeMoves_80 rfl rfl ?_
          refine jv_ifnull (q := 85) (tgt := 94) (x := none) G dX1_takeMoves_82 (by decide) rfl (fun c4 => ?_) (fun a5 c4 => ?_)
          · refine jv_iinc (q := 97) (lo' := [(8, .int (nI (k + 1))), (9, va_rf none), (0, .ref (z 6 3)), (1, .ref (z 0 a)), (2, .ref (z 0 b)), (3, .ref (T (10 * a + kt))), (4, .int (jv_bI w)), (6, .long (lN g))]) (v := nI (k + 1)) G 1 dX1_takeMoves_94 rfl (nI_1 k) (by decide) rfl rfl ?_
            refine jv_goto (q := 42) G dX1_takeMoves_97 (by decide) ?_
            refine jv_lo [0, 2, 3, 4, 5, 6, 7] (lo' := [(8, .int (nI (k + 1))), (0, .ref (z 6 3)), (1, .ref (z 0 a)), (2, .ref (z 0 b)), (3, .ref (T (10 * a + kt))), (4, .int (jv_bI w)), (6, .long (lN g))]) rfl ?_
            have ngo : m_goal A B (m_mvk A B s (mt_n t0) ((if w then 64 else 0) + k)).1 (mt_n t0) ((if w then 64 else 0) + k) = none := by
              have h9 := hgb k (by omega)
              rw [c3] at h9
              show m_goal A B _ (mt_n t0) (wk w k) = none
              cases hx : m_km (some t0) (wk w k) with
              | none => exact goal_0 (by rw [tyA]; exact hx)
              | some m =>
                cases hy : m_km lt (wk w k) with
                | none => rw [hx, hy] at h9; simp at h9
                | some o => exact goal_1 (by rw [tyA]; exact hx) (by rw [hlt_]; exact hy)
            refine ih (k + 1) _ (by omega) hF ?_
            rw [show (if w then 64 else 0) + (k + 1) = ((if w then 64 else 0) + k) + 1 from rfl, m_mvk, stp_n ngo]; exact ck
          · cases c4
        · refine jv_aload_n (q := 67) G 4 dX1_takeMoves_66 rfl rfl rfl ?_
          refine jv_iload (q := 69) G 5 dX1_takeMoves_67 rfl rfl ?_
          refine jv_iload (q := 71) G 0 dX1_takeMoves_69 rfl rfl ?_
          refine jv_callV_R (q := 74) (h1 := h1) (As := [.int (jv_bI w), .int (nI k)]) (rest := []) (ce' := 0) (sl' := 0) (r := ((m_oc t0 w (some k)).map (N (T (10 * a + kt))))) G Z ml_X1_89 (k_own (w := w) (ko := (some k)) hlt Yt0 Vt0 Ot0 hK) (hA1.2.1 kt k10t0).1 dX1_takeMoves_71 rfl (by decide) (by decide) (by decide) (by decide) (Nat.le_of_ble_eq_true rfl) rfl rfl rfl rfl ?_
          rcases Option.eq_none_or_eq_some (m_oc t0 w (some k)) with hj8 | ⟨j6, hj8⟩
          · refine jv_topR (y := none) (by rw [hj8]; rfl) ?_
            refine jv_goto (q := 78) G dX1_takeMoves_74 (by decide) ?_
            refine jv_astoreR (q := 80) (lo' := [(9, va_rf none), (8, .int (nI k)), (0, .ref (z 6 3)), (1, .ref (z 0 a)), (2, .ref (z 0 b)), (3, .ref (T (10 * a + kt))), (4, .int (jv_bI w)), (6, .long (lN g))]) (x := none) G dX1_takeMoves_78 (by decide) rfl rfl ?_
            refine jv_aloadR (q := 82) G 0 dX1_takeMoves_80 rfl rfl ?_
            refine jv_ifnull (q := 85) (tgt := 94) (x := none) G dX1_takeMoves_82 (by decide) rfl (fun c9 => ?_) (fun a10 c9 => ?_)
            · refine jv_iinc (q := 97) (lo' := [(8, .int (nI (k + 1))), (9, va_rf none), (0, .ref (z 6 3)), (1, .ref (z 0 a)), (2, .ref (z 0 b)), (3, .ref (T (10 * a + kt))), (4, .int (jv_bI w)), (6, .long (lN g))]) (v := nI (k + 1)) G 1 dX1_takeMoves_94 rfl (nI_1 k) (by decide) rfl rfl ?_
              refine jv_goto (q := 42) G dX1_takeMoves_97 (by decide) ?_
              refine jv_lo [0, 2, 3, 4, 5, 6, 7] (lo' := [(8, .int (nI (k + 1))), (0, .ref (z 6 3)), (1, .ref (z 0 a)), (2, .ref (z 0 b)), (3, .ref (T (10 * a + kt))), (4, .int (jv_bI w)), (6, .long (lN g))]) rfl ?_
              exfalso
              have h9 := hgb k (by omega)
              rw [c3, km_oc_n Ot0 (by omega) hj8] at h9
              simp at h9
            · cases c9
          · refine jv_topR (y := (some (N (T (10 * a + kt)) j6))) (by rw [hj8]; rfl) ?_
            obtain ⟨m7, hm7, wm7, km7⟩ := oc_some hj8
            have lm7 := jv_ltGet hm7
            have Om7 := Ot0.2.2.2.2.2.2 m7 (List.mem_of_getElem? hm7)
            have Vm7 := ct_m Vt0 hm7
            have j6m7 : j6 < 6 := by have := Ot0.2.2.2.2.2.1; omega
            have bm7a := Om7.2.2.1
            refine jv_goto (q := 78) G dX1_takeMoves_74 (by decide) ?_
            refine jv_astore (q := 80) (lo' := [(9, .ref (N (T (10 * a + kt)) j6)), (8, .int (nI k)), (0, .ref (z 6 3)), (1, .ref (z 0 a)), (2, .ref (z 0 b)), (3, .ref (T (10 * a + kt))), (4, .int (jv_bI w)), (6, .long (lN g))]) G dX1_takeMoves_78 (by decide) rfl rfl ?_
            refine jv_aload (q := 82) G 0 dX1_takeMoves_80 rfl rfl ?_
            refine jv_ifnull (q := 85) (tgt := 94) (x := (some (N (T (10 * a + kt)) j6))) G dX1_takeMoves_82 (by decide) rfl (fun c11 => ?_) (fun a12 c11 => ?_)
            · cases c11
            · refine jv_aload_n (q := 86) G 2 dX1_takeMoves_85 rfl rfl rfl ?_
              refine jv_aload_n (q := 87) G 3 dX1_takeMoves_86 rfl rfl rfl ?_
              refine jv_aload_n (q := 88) G 4 dX1_takeMoves_87 rfl rfl rfl ?_
              refine jv_aload_n (q := 89) G 5 dX1_takeMoves_88 rfl rfl rfl ?_
              refine jv_aload (q := 91) G 0 dX1_takeMoves_89 rfl rfl ?_
              have ekk : kk m7 = wk w k := by rw [kk_wk, wm7, Option.some.inj km7]
              have hkm : m_km (m_ty1 A (mt_n t0)) (kk m7) = some m7 := by rw [ekk, tyA]; exact km_oc_s Ot0 (by omega) hj8 hm7
              have hno : m_km (m_ty1 B (mt_n t0)) (kk m7) = none := by
                have h9 := hgb k (by omega)
                rw [c3] at h9
                rw [ekk, hlt_]
                cases h8 : m_km lt (wk w k) with
                | none => rfl
                | some o => rw [h8] at h9; simp at h9
              refine jv_callV (q := 94) (As := [.ref (z 0 a), .ref (z 0 b), .ref (T (10 * a + kt)), .ref (N (T (10 * a + kt)) j6)]) (rest := []) G Z ml_X1_93 (k_takeMove hlt hA1 hB1 uA1 uB1 nA nB lk1 ck (Yt0.2.2.2.2.2.2.2 j6 j6m7).2 Vm7 Om7 ht0 hkA hkm hno) lk1.1 dX1_takeMoves_91 rfl (by decide) (by decide) (by decide) (by decide) (Nat.le_of_ble_eq_true rfl) rfl rfl (fun v14 h13 y15 => ?_) (fun _ _ hx => hx.elim)
              obtain ⟨rfl, hF2, ck2⟩ := y15
              show jv_V E 10 h13 0 0 (jv_Q E (fun y h' => y = none ∧ cF (fun y => y = z 7 8 ∨ y = z 7 9) h h' ∧ ck_m z h' (m_mvk A B s (mt_n t0) ((if w then 64 else 0) + 64))) jv_no 0 0) 94 [(9, .ref (N (T (10 * a + kt)) j6)), (8, .int (nI k)), (0, .ref (z 6 3)), (1, .ref (z 0 a)), (2, .ref (z 0 b)), (3, .ref (T (10 * a + kt))), (4, .int (jv_bI w)), (6, .long (lN g))] []
              refine jv_iinc (q := 97) (lo' := [(8, .int (nI (k + 1))), (9, .ref (N (T (10 * a + kt)) j6)), (0, .ref (z 6 3)), (1, .ref (z 0 a)), (2, .ref (z 0 b)), (3, .ref (T (10 * a + kt))), (4, .int (jv_bI w)), (6, .long (lN g))]) (v := nI (k + 1)) G 1 dX1_takeMoves_94 rfl (nI_1 k) (by decide) rfl rfl ?_
              refine jv_goto (q := 42) G dX1_takeMoves_97 (by decide) ?_
              refine jv_lo [0, 2, 3, 4, 5, 6, 7] (lo' := [(8, .int (nI (k + 1))), (0, .ref (z 6 3)), (1, .ref (z 0 a)), (2, .ref (z 0 b)), (3, .ref (T (10 * a + kt))), (4, .int (jv_bI w)), (6, .long (lN g))]) rfl ?_
              rw [ekk] at ck2
              exact ih (k + 1) _ (by omega) (hF.tr hF2) ck2
set_option maxHeartbeats 4000000 in
set_option maxRecDepth 100000 in
theorem k_takeMoves {lA : Launch} (hlt : lA.stackTraces = false) {D : jv_D} {base : Nat} {z : Nat → Nat → Nat} {T : Nat → Nat} {N : Nat → Nat → Nat} {h : jv_H} {a b : Nat} {A B : List mT} {UA UB : Nat → List Nat} (hA : cv_E z T N h a A) (hB : cv_E z T N h b B) (uA : cv_Us z T h a A UA) (uB : cv_Us z T h b B UB) (nA : ∀ u l, u < 16 → l < 16 → c_ha A UA (nI u) (nI l) = m_abv A u l) (nB : ∀ u l, u < 16 → l < 16 → c_ha B UB (nI u) (nI l) = m_abv B u l) (lk : cl_k z h) {s : mS} {kt : Nat} {t0 : mT} (ht0 : A[kt]? = some t0) (hkA : ∀ (i : Nat) t, A[i]? = some t → m_uk t) (hkB : ∀ (i : Nat) t, B[i]? = some t → m_uk t) (huA : m_uq A) {w : Bool} (ck : ck_m z h (m_mvk A B s (mt_n t0) ((if w then 64 else 0) + 0))) : jv_Met lA D base yX1_takeMoves (.code yX1_takeMoves cX1_takeMoves 10 none) 5 0 0 [.ref (z 6 3), .ref (z 0 a), .ref (z 0 b), .ref (T (10 * a + kt)), .int (jv_bI w)] h (fun y h' => y = none ∧ cF (fun y => y = z 7 8 ∨ y = z 7 9) h h' ∧ ck_m z h' (m_mvk A B s (mt_n t0) ((if w then 64 else 0) + 64))) jv_no := by
  refine jv_ofV (lo := [(0, .ref (z 6 3)), (1, .ref (z 0 a)), (2, .ref (z 0 b)), (3, .ref (T (10 * a + kt))), (4, .int (jv_bI w))]) hlt (by decide) (Nat.le_of_ble_eq_true rfl) rfl (fun E hEl hEd hEz Z G hr ht hnm => ?_)
  subst hEl; subst hEd; subst hEz
  have lt0 := jv_ltGet ht0
  have k10t0 : kt < 10 := by have := hA.2.2.2.1; omega
  have Ot0 := (hA.2.2.2.2.1 kt t0 ht0).2
  have Vt0 := (hA.2.2.2.2.1 kt t0 ht0).1
  have Yt0 := hA.2.1 kt k10t0
  have bt0n := Ot0.1; have bt0k := Ot0.2.1
  refine jv_aload_n (q := 1) G 2 dX1_takeMoves_0 rfl rfl rfl ?_
  refine jv_aload_n (q := 2) G 3 dX1_takeMoves_1 rfl rfl rfl ?_
  refine jv_getI (q := 5) G dX1_takeMoves_2 fl_X1_75 rfl (hA.2.1 kt k10t0).1 (ct_0 (hA.2.2.2.2.1 kt t0 ht0).1) rfl ?_
  refine jv_callV_R (q := 8) (h1 := h) (As := [.int (nI (mt_n t0))]) (rest := []) (ce' := 0) (sl' := 0) (r := ((m_at B (nI (mt_n t0))).map (fun k => T (10 * b + k)))) G Z ml_X1_59 (k_named hlt hB) hB.1.1 dX1_takeMoves_5 rfl (by decide) (by decide) (by decide) (by decide) (Nat.le_of_ble_eq_true rfl) rfl rfl rfl rfl ?_
  rcases Option.eq_none_or_eq_some (m_at B (nI (mt_n t0))) with hk3 | ⟨k1, hk3⟩
  · refine jv_topR (y := none) (by rw [hk3]; rfl) ?_
    refine jv_astoreR (q := 10) (lo' := [(5, va_rf none), (0, .ref (z 6 3)), (1, .ref (z 0 a)), (2, .ref (z 0 b)), (3, .ref (T (10 * a + kt))), (4, .int (jv_bI w))]) (x := none) G dX1_takeMoves_8 (by decide) rfl rfl ?_
    refine jv_aload_n (q := 11) G 4 dX1_takeMoves_10 rfl rfl rfl ?_
    refine jv_iload (q := 13) G 5 dX1_takeMoves_11 rfl rfl ?_
    refine jv_callV_L (q := 16) (h1 := h) (As := [.int (jv_bI w)]) (rest := []) (ce' := 0) (sl' := 0) G Z ml_X1_80 (k_keys hlt Yt0 Vt0 Ot0) (hA.2.1 kt k10t0).1 dX1_takeMoves_13 rfl (by decide) (by decide) (by decide) (by decide) (Nat.le_of_ble_eq_true rfl) rfl rfl rfl rfl ?_
    refine jv_aloadR (q := 18) G 0 dX1_takeMoves_16 rfl rfl ?_
    refine jv_ifnonnull (q := 21) (tgt := 25) (x := none) G dX1_takeMoves_18 (by decide) rfl (fun a5 c4 => ?_) (fun c4 => ?_)
    · cases c4
    · refine jv_lconst (q := 22) (v := 0) G dX1_takeMoves_21 (by decide) rfl ?_
      refine jv_goto (q := 32) G dX1_takeMoves_22 (by decide) ?_
      refine jv_ldc2 (q := 35) (v := -1) G dX1_takeMoves_32 cl_m1 rfl ?_
      refine jv_lxor (q := 36) G dX1_takeMoves_35 rfl ?_
      refine jv_land (q := 37) G dX1_takeMoves_36 rfl ?_
      refine jv_topL (y := lN (nd (m_ks w (mt_m t0)) 0)) (nd_L (O := 0) (ks_lt Ot0.2.2.2.2.2.2)) ?_
      refine jv_lstore (q := 39) (lo' := [(6, .long (lN (nd (m_ks w (mt_m t0)) 0))), (5, va_rf none), (0, .ref (z 6 3)), (1, .ref (z 0 a)), (2, .ref (z 0 b)), (3, .ref (T (10 * a + kt))), (4, .int (jv_bI w))]) G dX1_takeMoves_37 (by decide) rfl rfl ?_
      refine jv_iconst (q := 40) (v := nI 0) G dX1_takeMoves_39 (by decide) rfl ?_
      refine jv_istore (q := 42) (lo' := [(8, .int (nI 0)), (6, .long (lN (nd (m_ks w (mt_m t0)) 0))), (5, va_rf none), (0, .ref (z 6 3)), (1, .ref (z 0 a)), (2, .ref (z 0 b)), (3, .ref (T (10 * a + kt))), (4, .int (jv_bI w))]) G dX1_takeMoves_40 (by decide) rfl rfl ?_
      refine jv_lo [0, 3, 4, 5, 6, 7, 1] (lo' := [(8, .int (nI 0)), (0, .ref (z 6 3)), (1, .ref (z 0 a)), (2, .ref (z 0 b)), (3, .ref (T (10 * a + kt))), (4, .int (jv_bI w)), (6, .long (lN (nd (m_ks w (mt_m t0)) 0)))]) rfl ?_
      exact k_tms_loop hA hB uA uB nA nB lk ht0 hkA hkB huA (g := nd (m_ks w (mt_m t0)) 0) (lt := none) (ty1_n hk3) (nd_lt (ks_lt Ot0.2.2.2.2.2.2)) (fun K hK2 => by rw [nd_bit, has_km Ot0 (hkA _ _ ht0) hK2, Nat.zero_testBit]; rfl) hlt G Z hr 64 0 _ (by omega) cF.rf ck
  · refine jv_topR (y := (some (T (10 * b + k1)))) (by rw [hk3]; rfl) ?_
    obtain ⟨t2, ht2, nt2⟩ := m_at_get hk3
    have lt2 := jv_ltGet ht2
    have k10t2 : k1 < 10 := by have := hB.2.2.2.1; omega
    have Ot2 := (hB.2.2.2.2.1 k1 t2 ht2).2
    have Vt2 := (hB.2.2.2.2.1 k1 t2 ht2).1
    have Yt2 := hB.2.1 k1 k10t2
    have bt2n := Ot2.1; have bt2k := Ot2.2.1
    refine jv_astore (q := 10) (lo' := [(5, .ref (T (10 * b + k1))), (0, .ref (z 6 3)), (1, .ref (z 0 a)), (2, .ref (z 0 b)), (3, .ref (T (10 * a + kt))), (4, .int (jv_bI w))]) G dX1_takeMoves_8 (by decide) rfl rfl ?_
    refine jv_aload_n (q := 11) G 4 dX1_takeMoves_10 rfl rfl rfl ?_
    refine jv_iload (q := 13) G 5 dX1_takeMoves_11 rfl rfl ?_
    refine jv_callV_L (q := 16) (h1 := h) (As := [.int (jv_bI w)]) (rest := []) (ce' := 0) (sl' := 0) G Z ml_X1_80 (k_keys hlt Yt0 Vt0 Ot0) (hA.2.1 kt k10t0).1 dX1_takeMoves_13 rfl (by decide) (by decide) (by decide) (by decide) (Nat.le_of_ble_eq_true rfl) rfl rfl rfl rfl ?_
    refine jv_aload (q := 18) G 0 dX1_takeMoves_16 rfl rfl ?_
    refine jv_ifnonnull (q := 21) (tgt := 25) (x := (some (T (10 * b + k1)))) G dX1_takeMoves_18 (by decide) rfl (fun a7 c6 => ?_) (fun c6 => ?_)
    · refine jv_aload (q := 27) G 0 dX1_takeMoves_25 rfl rfl ?_
      refine jv_iload (q := 29) G 5 dX1_takeMoves_27 rfl rfl ?_
      refine jv_callV_L (q := 32) (h1 := h) (As := [.int (jv_bI w)]) (rest := [.long (lN (m_ks w (mt_m t0)))]) (ce' := 0) (sl' := 0) G Z ml_X1_80 (k_keys hlt Yt2 Vt2 Ot2) (hB.2.1 k1 k10t2).1 dX1_takeMoves_29 rfl (by decide) (by decide) (by decide) (by decide) (Nat.le_of_ble_eq_true rfl) rfl rfl rfl rfl ?_
      refine jv_ldc2 (q := 35) (v := -1) G dX1_takeMoves_32 cl_m1 rfl ?_
      refine jv_lxor (q := 36) G dX1_takeMoves_35 rfl ?_
      refine jv_land (q := 37) G dX1_takeMoves_36 rfl ?_
      refine jv_topL (y := lN (nd (m_ks w (mt_m t0)) (m_ks w (mt_m t2)))) (nd_L (O := (m_ks w (mt_m t2))) (ks_lt Ot0.2.2.2.2.2.2)) ?_
      refine jv_lstore (q := 39) (lo' := [(6, .long (lN (nd (m_ks w (mt_m t0)) (m_ks w (mt_m t2))))), (5, .ref (T (10 * b + k1))), (0, .ref (z 6 3)), (1, .ref (z 0 a)), (2, .ref (z 0 b)), (3, .ref (T (10 * a + kt))), (4, .int (jv_bI w))]) G dX1_takeMoves_37 (by decide) rfl rfl ?_
      refine jv_iconst (q := 40) (v := nI 0) G dX1_takeMoves_39 (by decide) rfl ?_
      refine jv_istore (q := 42) (lo' := [(8, .int (nI 0)), (6, .long (lN (nd (m_ks w (mt_m t0)) (m_ks w (mt_m t2))))), (5, .ref (T (10 * b + k1))), (0, .ref (z 6 3)), (1, .ref (z 0 a)), (2, .ref (z 0 b)), (3, .ref (T (10 * a + kt))), (4, .int (jv_bI w))]) G dX1_takeMoves_40 (by decide) rfl rfl ?_
      refine jv_lo [0, 3, 4, 5, 6, 7, 1] (lo' := [(8, .int (nI 0)), (0, .ref (z 6 3)), (1, .ref (z 0 a)), (2, .ref (z 0 b)), (3, .ref (T (10 * a + kt))), (4, .int (jv_bI w)), (6, .long (lN (nd (m_ks w (mt_m t0)) (m_ks w (mt_m t2)))))]) rfl ?_
      exact k_tms_loop hA hB uA uB nA nB lk ht0 hkA hkB huA (g := nd (m_ks w (mt_m t0)) (m_ks w (mt_m t2))) (lt := (some t2)) (ty1_s hk3 ht2) (nd_lt (ks_lt Ot0.2.2.2.2.2.2)) (fun K hK2 => by rw [nd_bit, has_km Ot0 (hkA _ _ ht0) hK2, has_km Ot2 (hkB _ _ ht2) hK2, Option.not_isSome]) hlt G Z hr 64 0 _ (by omega) cF.rf ck
    · cases c6
