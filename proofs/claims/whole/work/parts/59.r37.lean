def m_any (p : Nat → Bool) : Nat → Bool
  | 0 => false
  | n + 1 => m_any p n || p n
theorem any_m {p : Nat → Bool} : ∀ {n k : Nat}, m_any p k = true → m_any p (k + n) = true
  | 0, k, h => h
  | n + 1, k, h => by rw [show k + (n + 1) = (k + n) + 1 from rfl, m_any, any_m h]; rfl
theorem any_i {p : Nat → Bool} : ∀ {n : Nat}, m_any p n = true ↔ ∃ k, k < n ∧ p k = true
  | 0 => ⟨fun h => (by cases h), fun ⟨k, h, _⟩ => by omega⟩
  | n + 1 => by
    rw [m_any, Bool.or_eq_true, any_i]
    constructor
    · rintro (⟨k, h1, h2⟩ | h)
      · exact ⟨k, by omega, h2⟩
      · exact ⟨n, by omega, h⟩
    · rintro ⟨k, h1, h2⟩
      by_cases hk : k = n
      · subst hk; exact Or.inr h2
      · exact Or.inl ⟨k, by omega, h2⟩
def m_brk (own : Bool) (A B : List mT) (p kd : Nat) (t n s r : Int32) : Bool := decide ((m_met true A A p none kd t n s r).1 = 0) && !decide ((m_met own A B p none kd t n s r).1 = 0) && !decide ((m_met own A B p none kd t n s r).1 = 8) && !decide ((m_met own A B p none kd t n s r).1 = 9)
def m_bkr (own : Bool) (A B : List mT) (p kd : Nat) (t n s : Int32) (k : Nat) : Bool := (A[k]?).any (fun y => m_brk own A B p kd t n s (nI (mt_n y)))
def m_bka (own : Bool) (A B : List mT) (p kd : Nat) (t n s : Int32) : Bool := if kd = 2 ∨ kd = 4 then m_any (m_bkr own A B p kd t n s) A.length else m_brk own A B p kd t n s (-1)
def m_bkk (own : Bool) (A B : List mT) (p : Nat) (t : Int32) (m : mM) (kd : Nat) : Bool := (decide (kd < 2) == !mm_w m) && m_bka own A B p kd t (nI (mm_n m)) (nI (mm_s m))
def m_bkm (own : Bool) (A B : List mT) (p : Nat) (t : Int32) (k : Nat) : Bool := (A[k / 6]?).any (fun y => ((mt_m y)[k % 6]?).any (fun m => m_any (m_bkk own A B p t m) 5))
def m_bkt (own : Bool) (A B : List mT) (p : Nat) (t : Int32) : Bool := m_brk own A B p 5 t (nI 0) (nI 0) (-1) || m_any (m_bkm own A B p t) 60
def m_bky (own : Bool) (A B : List mT) (p k : Nat) : Bool := (A[k]?).any (fun y => m_bkt own A B p (nI (mt_n y)))
def m_bkp (own : Bool) (A B : List mT) (p : Nat) : Bool := m_any (m_bky own A B p) A.length
def m_cmp (M : mA) (a b : Int32) : Int32 := match m_ix1 M.1.length a, m_ix1 M.1.length b with
  | some i, some j => jv_bI (!m_any (m_bkp (decide (j = i)) (ma_t M i) (ma_t M j)) 5)
  | _, _ => 0
/-- the probe's caller -/
def pb (x : Nat) (q : Nat → Nat) (a p : Nat) (h0 h1 : jv_H) : Prop := rs x q h0 h1 ∧ jv_I h1 (q 22) 12 = nI a ∧ jv_I h1 (q 23) 12 = nI p ∧ jv_I h1 (q 24) 12 = jv_oN none ∧ jv_I h1 x 0 = jv_I h0 x 0
theorem met_lt (own : Bool) (A B : List mT) (p : Nat) (su : Option Nat) (kd : Nat) (t n s r : Int32) : (m_met own A B p su kd t n s r).1 < 10 := by
  unfold m_met
  repeat' first | (show (_ : Nat) < 10; decide) | refine ite_lt10 ?_ ?_ | split
  all_goals first | exact (by decide : 0 < 10) | exact (by decide : 8 < 10)
set_option maxHeartbeats 4000000 in
set_option maxRecDepth 100000 in
theorem r_breaks {lA : Launch} (hlt : lA.stackTraces = false) {D : jv_D} {base : Nat} {x : Nat} {q : Nat → Nat} {h0 h : jv_H} {a b p : Nat} {A B : List mT} (hS0 : rf_S x q h0) (ha : a < 8) (hb : b < 8) (hp : p < 5) (hEA : rf_E q h0 a A) (hEB : rf_E q h0 b B) (hVA : rf_V q h0 a A) (hVB : rf_V q h0 b B) (gA : ∀ k, k < A.length → m_hg A 11 k) (gB : ∀ k, k < B.length → m_hg B 11 k) {kd : Nat} {t n s r : Int32} (hkd : kd < 6) (hpb : pb x q a p h0 h) : jv_Met lA D base yX8_breaks (.code yX8_breaks cX8_breaks 9 (some .boolean)) 16 0 0 [.ref x, .int (nI b), .int (nI kd), .int t, .int n, .int s, .int r] h (fun v h' => v = some (.int (jv_bI (m_brk (decide (b = a)) A B p kd t n s r))) ∧ pb x q a p h0 h') jv_no := by
  refine jv_ofV (lo := [(0, .ref x), (1, .int (nI b)), (2, .int (nI kd)), (3, .int t), (4, .int n), (5, .int s), (6, .int r)]) hlt (by decide) (Nat.le_of_ble_eq_true rfl) rfl (fun E hEl hEd hEz Z G hr ht hnm => ?_)
  subst hEl; subst hEd; subst hEz
  obtain ⟨hrs, hce, hpk, hsu, hx0⟩ := id hpb
  have hS := hrs.S hS0
  have hEA1 := hrs.E hS0 hEA; have hEB1 := hrs.E hS0 hEB; have hVA1 := hrs.V hS0 hVA; have hVB1 := hrs.V hS0 hVB
  have hla := hEA.2.1
  refine jv_aload_n (q := 1) G 0 dX8_breaks_0 rfl rfl rfl ?_
  refine jv_getQ (q := 4) G dX8_breaks_1 fl_X8_68 rfl hS.1 (rf_p22 hS) rfl ?_
  refine jv_bipush (q := 6) (v := nI 12) G dX8_breaks_4 (by decide) rfl ?_
  refine jv_iald (q := 7) G dX8_breaks_6 (rf_a22 hS) rfl (by omega) (by decide) hce rfl ?_
  refine jv_istore (q := 9) (lo' := [(7, .int (nI a)), (0, .ref x), (1, .int (nI b)), (2, .int (nI kd)), (3, .int t), (4, .int n), (5, .int s), (6, .int r)]) G dX8_breaks_7 (by decide) rfl rfl ?_
  refine jv_aload_n (q := 10) G 1 dX8_breaks_9 rfl rfl rfl ?_
  refine jv_bipush (q := 12) (v := nI 12) G dX8_breaks_10 (by decide) rfl ?_
  refine jv_iload (q := 14) G 0 dX8_breaks_12 rfl rfl ?_
  refine jv_iload_n (q := 15) G 3 dX8_breaks_14 rfl rfl rfl ?_
  refine jv_iload_n (q := 16) G 4 dX8_breaks_15 rfl rfl rfl ?_
  refine jv_iload (q := 18) G 5 dX8_breaks_16 rfl rfl ?_
  refine jv_iload (q := 20) G 6 dX8_breaks_18 rfl rfl ?_
  refine jv_iload (q := 22) G 7 dX8_breaks_20 rfl rfl ?_
  refine jv_callV (q := 25) (As := [.int (nI 12), .int (nI a), .int (nI kd), .int t, .int n, .int s, .int r]) (rest := []) G Z ml_X8_208 (r_metS hlt hS (by decide) ha ha hEA1 hVA1 hEA1 hVA1 hce hpk hp hsu (fun u e => by cases e) hkd gA gA) hS.1 dX8_breaks_22 rfl (by decide) (by decide) (by decide) (by decide) (Nat.le_of_ble_eq_true rfl) rfl rfl (fun v2 h1 y3 => ?_) (fun _ _ hx => hx.elim)
  obtain ⟨rfl, hr2, hrn2, hx2, hce2, hpk2, hsu2⟩ := y3
  show jv_V E 9 h1 0 0 (jv_Q E (fun v h' => v = some (.int (jv_bI (m_brk (decide (b = a)) A B p kd t n s r))) ∧ pb x q a p h0 h') jv_no 0 0) 25 [(7, .int (nI a)), (0, .ref x), (1, .int (nI b)), (2, .int (nI kd)), (3, .int t), (4, .int n), (5, .int s), (6, .int r)] [.int (nI ((m_met (decide (a = a)) A A p none kd t n s r).1))]
  have hpb : pb x q a p h0 h1 := ⟨hrs.tr hr2, hce2, hpk2, hsu2, hx2.trans hx0⟩
  clear hrs hce hpk hsu hx0 hS hEA1 hEB1 hVA1 hVB1
  obtain ⟨hrs, hce, hpk, hsu, hx0⟩ := id hpb
  have hS := hrs.S hS0
  have hEA1 := hrs.E hS0 hEA; have hEB1 := hrs.E hS0 hEB; have hVA1 := hrs.V hS0 hVA; have hVB1 := hrs.V hS0 hVB
  have hla := hEA.2.1
  have hl25 := met_lt (decide (a = a)) A A p none kd t n s r
  have eown : decide (a = a) = true := decide_eq_true rfl
  rw [eown] at hl25
  refine jv_topI (y := nI ((m_met true A A p none kd t n s r).1)) (by rw [eown]) ?_
  refine jv_if_eqN (q := 28) (tgt := 30) G dX8_breaks_25 (by decide) rfl (by omega) (fun c4 => ?_) (fun c4 => ?_)
  · refine jv_aload_n (q := 31) G 1 dX8_breaks_30 rfl rfl rfl ?_
    refine jv_bipush (q := 33) (v := nI 12) G dX8_breaks_31 (by decide) rfl ?_
    refine jv_iload_n (q := 34) G 2 dX8_breaks_33 rfl rfl rfl ?_
    refine jv_iload_n (q := 35) G 3 dX8_breaks_34 rfl rfl rfl ?_
    refine jv_iload_n (q := 36) G 4 dX8_breaks_35 rfl rfl rfl ?_
    refine jv_iload (q := 38) G 5 dX8_breaks_36 rfl rfl ?_
    refine jv_iload (q := 40) G 6 dX8_breaks_38 rfl rfl ?_
    refine jv_iload (q := 42) G 7 dX8_breaks_40 rfl rfl ?_
    refine jv_callV (q := 45) (As := [.int (nI 12), .int (nI b), .int (nI kd), .int t, .int n, .int s, .int r]) (rest := []) G Z ml_X8_208 (r_metS hlt hS (by decide) hb ha hEB1 hVB1 hEA1 hVA1 hce hpk hp hsu (fun u e => by cases e) hkd gB gA) hS.1 dX8_breaks_42 rfl (by decide) (by decide) (by decide) (by decide) (Nat.le_of_ble_eq_true rfl) rfl rfl (fun v6 h5 y7 => ?_) (fun _ _ hx => hx.elim)
    obtain ⟨rfl, hr2, hrn2, hx2, hce2, hpk2, hsu2⟩ := y7
    show jv_V E 9 h5 0 0 (jv_Q E (fun v h' => v = some (.int (jv_bI (m_brk (decide (b = a)) A B p kd t n s r))) ∧ pb x q a p h0 h') jv_no 0 0) 45 [(7, .int (nI a)), (0, .ref x), (1, .int (nI b)), (2, .int (nI kd)), (3, .int t), (4, .int n), (5, .int s), (6, .int r)] [.int (nI ((m_met (decide (b = a)) A B p none kd t n s r).1))]
    have hpb : pb x q a p h0 h5 := ⟨hrs.tr hr2, hce2, hpk2, hsu2, hx2.trans hx0⟩
    clear hrs hce hpk hsu hx0 hS hEA1 hEB1 hVA1 hVB1
    obtain ⟨hrs, hce, hpk, hsu, hx0⟩ := id hpb
    have hS := hrs.S hS0
    have hEA1 := hrs.E hS0 hEA; have hEB1 := hrs.E hS0 hEB; have hVA1 := hrs.V hS0 hVA; have hVB1 := hrs.V hS0 hVB
    have hla := hEA.2.1
    have hl45 := met_lt (decide (b = a)) A B p none kd t n s r
    refine jv_istore (q := 47) (lo' := [(8, .int (nI ((m_met (decide (b = a)) A B p none kd t n s r).1))), (7, .int (nI a)), (0, .ref x), (1, .int (nI b)), (2, .int (nI kd)), (3, .int t), (4, .int n), (5, .int s), (6, .int r)]) G dX8_breaks_45 (by decide) rfl rfl ?_
    refine jv_iload (q := 49) G 0 dX8_breaks_47 rfl rfl ?_
    refine jv_if_eqN (q := 52) (tgt := 70) G dX8_breaks_49 (by decide) rfl (by omega) (fun c8 => ?_) (fun c8 => ?_)
    · refine jv_iconst (q := 71) (v := nI 0) G dX8_breaks_70 (by decide) rfl ?_
      refine jv_topI (y := jv_bI false) rfl ?_
      refine jv_zret G hr dX8_breaks_71 (Nat.le_of_ble_eq_true rfl) (Nat.le_of_ble_eq_true rfl) ?_
      refine ⟨?_, hpb⟩
      unfold m_brk
      simp only [*, decide_true, decide_false, Bool.true_and, Bool.false_and, Bool.and_true, Bool.and_false, Bool.not_true, Bool.not_false, if_true, Nat.reduceEqDiff, Bool.false_eq_true]
    · refine jv_iload (q := 54) G 0 dX8_breaks_52 rfl rfl ?_
      refine jv_bipush (q := 56) (v := nI 8) G dX8_breaks_54 (by decide) rfl ?_
      refine jv_icmp_eqN (q := 59) (tgt := 70) G dX8_breaks_56 (by decide) rfl (by omega) (by omega) (fun c9 => ?_) (fun c9 => ?_)
      · refine jv_iconst (q := 71) (v := nI 0) G dX8_breaks_70 (by decide) rfl ?_
        refine jv_topI (y := jv_bI false) rfl ?_
        refine jv_zret G hr dX8_breaks_71 (Nat.le_of_ble_eq_true rfl) (Nat.le_of_ble_eq_true rfl) ?_
        refine ⟨?_, hpb⟩
        unfold m_brk
        simp only [*, decide_true, decide_false, Bool.true_and, Bool.false_and, Bool.and_true, Bool.and_false, Bool.not_true, Bool.not_false, if_true, Nat.reduceEqDiff, Bool.false_eq_true]
      · refine jv_iload (q := 61) G 0 dX8_breaks_59 rfl rfl ?_
        refine jv_bipush (q := 63) (v := nI 9) G dX8_breaks_61 (by decide) rfl ?_
        refine jv_icmp_eqN (q := 66) (tgt := 70) G dX8_breaks_63 (by decide) rfl (by omega) (by omega) (fun c10 => ?_) (fun c10 => ?_)
        · refine jv_iconst (q := 71) (v := nI 0) G dX8_breaks_70 (by decide) rfl ?_
          refine jv_topI (y := jv_bI false) rfl ?_
          refine jv_zret G hr dX8_breaks_71 (Nat.le_of_ble_eq_true rfl) (Nat.le_of_ble_eq_true rfl) ?_
          refine ⟨?_, hpb⟩
          unfold m_brk
          simp only [*, decide_true, decide_false, Bool.true_and, Bool.false_and, Bool.and_true, Bool.and_false, Bool.not_true, Bool.not_false, if_true, Nat.reduceEqDiff, Bool.false_eq_true]
        · refine jv_iconst (q := 67) (v := nI 1) G dX8_breaks_66 (by decide) rfl ?_
          refine jv_goto (q := 71) G dX8_breaks_67 (by decide) ?_
          refine jv_topI (y := jv_bI true) rfl ?_
          refine jv_zret G hr dX8_breaks_71 (Nat.le_of_ble_eq_true rfl) (Nat.le_of_ble_eq_true rfl) ?_
          refine ⟨?_, hpb⟩
          unfold m_brk
          simp only [*, decide_true, decide_false, Bool.true_and, Bool.false_and, Bool.and_true, Bool.and_false, Bool.not_true, Bool.not_false, if_true, Nat.reduceEqDiff, Bool.false_eq_true]
  · refine jv_iconst (q := 29) (v := nI 0) G dX8_breaks_28 (by decide) rfl ?_
    refine jv_topI (y := jv_bI false) rfl ?_
    refine jv_zret G hr dX8_breaks_29 (Nat.le_of_ble_eq_true rfl) (Nat.le_of_ble_eq_true rfl) ?_
    refine ⟨?_, hpb⟩
    unfold m_brk
    simp only [*, decide_true, decide_false, Bool.true_and, Bool.false_and, Bool.and_true, Bool.and_false, Bool.not_true, Bool.not_false, if_true, Nat.reduceEqDiff, Bool.false_eq_true]
set_option maxHeartbeats 4000000 in
set_option maxRecDepth 100000 in
theorem r_bka {E : jv_E} {Q : State → Prop} {x : Nat} {q : Nat → Nat} {h0 : jv_H} {a b p : Nat} {A B : List mT} (hS0 : rf_S x q h0) (ha : a < 8) (hb : b < 8) (hp : p < 5) (hEA : rf_E q h0 a A) (hEB : rf_E q h0 b B) (hVA : rf_V q h0 a A) (hVB : rf_V q h0 b B) (gA : ∀ k, k < A.length → m_hg A 11 k) (gB : ∀ k, k < B.length → m_hg B 11 k) {kd : Nat} {t n s : Int32} (hkd : kd < 6) (hlt : (jv_l E).stackTraces = false) (G : jv_C E cX8_breaksAny RX8 9) (Z : jv_rm E = jv_room 17 0 0) (hK : ∀ h2, pb x q a p h0 h2 → jv_V E 9 h2 0 0 Q 81 [(7, .int (jv_bI (m_any (m_bkr (decide (b = a)) A B p kd t n s) A.length)))] []) : ∀ (m k : Nat) (h1 : jv_H), k + m = A.length → pb x q a p h0 h1 → jv_V E 9 h1 0 0 Q 33 [(8, .int (nI (10 * a + k))), (7, .int (jv_bI (m_any (m_bkr (decide (b = a)) A B p kd t n s) k))), (0, .ref x), (1, .int (nI a)), (2, .int (nI b)), (3, .int (nI kd)), (4, .int t), (5, .int n), (6, .int s)] [] := by
  intro m
  induction m with
  | zero =>
    intro k h1 hm hpb
    obtain ⟨hrs, hce, hpk, hsu, hx0⟩ := id hpb
    have hS := hrs.S hS0
    have hEA1 := hrs.E hS0 hEA; have hEB1 := hrs.E hS0 hEB; have hVA1 := hrs.V hS0 hVA; have hVB1 := hrs.V hS0 hVB
    have hla := hEA.2.1
    refine jv_iload (q := 35) G 0 dX8_breaksAny_33 rfl rfl ?_
    refine jv_bipush (q := 37) (v := nI 10) G dX8_breaksAny_35 (by decide) rfl ?_
    refine jv_iload_n (q := 38) G 3 dX8_breaksAny_37 rfl rfl rfl ?_
    refine jv_imulN (q := 39) G dX8_breaksAny_38 rfl ?_
    refine jv_aload_n (q := 40) G 2 dX8_breaksAny_39 rfl rfl rfl ?_
    refine jv_getQ (q := 43) G dX8_breaksAny_40 fl_X8_13 rfl hS.1 (rf_p3 hS) rfl ?_
    refine jv_iload_n (q := 44) G 3 dX8_breaksAny_43 rfl rfl rfl ?_
    refine jv_iald (q := 45) G dX8_breaksAny_44 (rf_a3 hS) rfl (by omega) (by decide) hEA1.1 rfl ?_
    refine jv_iaddN (q := 46) G dX8_breaksAny_45 rfl ?_
    refine jv_icmp_geN (q := 49) (tgt := 81) G dX8_breaksAny_46 (by decide) rfl (by omega) (by omega) (fun c1 => ?_) (fun c1 => ?_)
    · refine jv_lo [1] (lo' := [(7, .int (jv_bI (m_any (m_bkr (decide (b = a)) A B p kd t n s) k)))]) rfl ?_
      rw [show k = A.length by omega]; exact hK _ hpb
    · omega
  | succ m ih =>
    intro k h1 hm hpb
    obtain ⟨hrs, hce, hpk, hsu, hx0⟩ := id hpb
    have hS := hrs.S hS0
    have hEA1 := hrs.E hS0 hEA; have hEB1 := hrs.E hS0 hEB; have hVA1 := hrs.V hS0 hVA; have hVB1 := hrs.V hS0 hVB
    have hla := hEA.2.1
    obtain ⟨y, hy⟩ := jv_getLt (l := A) (k := k) (by omega)
    have hT := (hEA1.2.2 k y hy).1
    refine jv_iload (q := 35) G 0 dX8_breaksAny_33 rfl rfl ?_
    refine jv_bipush (q := 37) (v := nI 10) G dX8_breaksAny_35 (by decide) rfl ?_
    refine jv_iload_n (q := 38) G 3 dX8_breaksAny_37 rfl rfl rfl ?_
    refine jv_imulN (q := 39) G dX8_breaksAny_38 rfl ?_
    refine jv_aload_n (q := 40) G 2 dX8_breaksAny_39 rfl rfl rfl ?_
    refine jv_getQ (q := 43) G dX8_breaksAny_40 fl_X8_13 rfl hS.1 (rf_p3 hS) rfl ?_
    refine jv_iload_n (q := 44) G 3 dX8_breaksAny_43 rfl rfl rfl ?_
    refine jv_iald (q := 45) G dX8_breaksAny_44 (rf_a3 hS) rfl (by omega) (by decide) hEA1.1 rfl ?_
    refine jv_iaddN (q := 46) G dX8_breaksAny_45 rfl ?_
    refine jv_icmp_geN (q := 49) (tgt := 81) G dX8_breaksAny_46 (by decide) rfl (by omega) (by omega) (fun c1 => ?_) (fun c1 => ?_)
    · omega
    · refine jv_iload (q := 51) G 1 dX8_breaksAny_49 rfl rfl ?_
      refine jv_if_neB (q := 54) (tgt := 81) G dX8_breaksAny_51 (by decide) rfl (fun c2 => ?_) (fun c2 => ?_)
      · refine jv_lo [1] (lo' := [(7, .int (jv_bI (m_any (m_bkr (decide (b = a)) A B p kd t n s) k)))]) rfl ?_
        have e1 : m_any (m_bkr (decide (b = a)) A B p kd t n s) k = m_any (m_bkr (decide (b = a)) A B p kd t n s) A.length := by
          rw [c2, ← hm, any_m c2]
        rw [e1]; exact hK _ hpb
      · refine jv_aload_n (q := 55) G 2 dX8_breaksAny_54 rfl rfl rfl ?_
        refine jv_iload_n (q := 56) G 4 dX8_breaksAny_55 rfl rfl rfl ?_
        refine jv_iload_n (q := 57) G 5 dX8_breaksAny_56 rfl rfl rfl ?_
        refine jv_iload (q := 59) G 6 dX8_breaksAny_57 rfl rfl ?_
        refine jv_iload (q := 61) G 7 dX8_breaksAny_59 rfl rfl ?_
        refine jv_iload (q := 63) G 8 dX8_breaksAny_61 rfl rfl ?_
        refine jv_aload_n (q := 64) G 2 dX8_breaksAny_63 rfl rfl rfl ?_
        refine jv_getQ (q := 67) G dX8_breaksAny_64 fl_X8_17 rfl hS.1 (rf_p4 hS) rfl ?_
        refine jv_iload (q := 69) G 0 dX8_breaksAny_67 rfl rfl ?_
        refine jv_iald (q := 70) G dX8_breaksAny_69 (rf_a4 hS) rfl (by omega) (by decide) (rt_4 hT) rfl ?_
        refine jv_callV (q := 73) (As := [.int (nI b), .int (nI kd), .int t, .int n, .int s, .int (nI (mt_n y))]) (rest := []) G Z ml_X8_248 (r_breaks hlt hS0 ha hb hp hEA hEB hVA hVB gA gB hkd hpb) hS.1 dX8_breaksAny_70 rfl (by decide) (by decide) (by decide) (by decide) (Nat.le_of_ble_eq_true rfl) rfl rfl (fun v4 h3 y5 => ?_) (fun _ _ hx => hx.elim)
        obtain ⟨rfl, hpb⟩ := y5
        show jv_V E 9 h3 0 0 Q 73 [(8, .int (nI (10 * a + k))), (7, .int (jv_bI (m_any (m_bkr (decide (b = a)) A B p kd t n s) k))), (0, .ref x), (1, .int (nI a)), (2, .int (nI b)), (3, .int (nI kd)), (4, .int t), (5, .int n), (6, .int s)] [.int (jv_bI (m_brk (decide (b = a)) A B p kd t n s (nI (mt_n y))))]
        clear hrs hce hpk hsu hx0 hS hEA1 hEB1 hVA1 hVB1
        obtain ⟨hrs, hce, hpk, hsu, hx0⟩ := id hpb
        have hS := hrs.S hS0
        have hEA1 := hrs.E hS0 hEA; have hEB1 := hrs.E hS0 hEB; have hVA1 := hrs.V hS0 hVA; have hVB1 := hrs.V hS0 hVB
        have hla := hEA.2.1
        refine jv_istore (q := 75) (lo' := [(7, .int (jv_bI (m_brk (decide (b = a)) A B p kd t n s (nI (mt_n y))))), (8, .int (nI (10 * a + k))), (0, .ref x), (1, .int (nI a)), (2, .int (nI b)), (3, .int (nI kd)), (4, .int t), (5, .int n), (6, .int s)]) G dX8_breaksAny_73 (by decide) rfl rfl ?_
        refine jv_iinc (q := 78) (lo' := [(8, .int (nI (10 * a + k + 1))), (7, .int (jv_bI (m_brk (decide (b = a)) A B p kd t n s (nI (mt_n y))))), (0, .ref x), (1, .int (nI a)), (2, .int (nI b)), (3, .int (nI kd)), (4, .int t), (5, .int n), (6, .int s)]) (v := nI (10 * a + k + 1)) G 1 dX8_breaksAny_75 rfl (nI_1 (10 * a + k)) (by decide) rfl rfl ?_
        refine jv_goto (q := 33) G dX8_breaksAny_78 (by decide) ?_
        refine jv_lo [0, 1, 2, 3, 4, 5, 6, 7, 8] (lo' := [(8, .int (nI (10 * a + k + 1))), (7, .int (jv_bI (m_brk (decide (b = a)) A B p kd t n s (nI (mt_n y))))), (0, .ref x), (1, .int (nI a)), (2, .int (nI b)), (3, .int (nI kd)), (4, .int t), (5, .int n), (6, .int s)]) rfl ?_
        have e1 : jv_bI (m_brk (decide (b = a)) A B p kd t n s (nI (mt_n y))) = jv_bI (m_any (m_bkr (decide (b = a)) A B p kd t n s) (k + 1)) := by
          rw [m_any, c2, Bool.false_or]
          show _ = jv_bI (Option.any _ _)
          rw [hy]; rfl
        rw [e1]
        show jv_V E 9 h3 0 0 Q 33 [(8, .int (nI (10 * a + (k + 1)))), (7, .int (jv_bI (m_any (m_bkr (decide (b = a)) A B p kd t n s) (k + 1)))), (0, .ref x), (1, .int (nI a)), (2, .int (nI b)), (3, .int (nI kd)), (4, .int t), (5, .int n), (6, .int s)] []
        exact ih (k + 1) _ (by omega) hpb
set_option maxHeartbeats 4000000 in
set_option maxRecDepth 100000 in
theorem r_breaksAny {lA : Launch} (hlt : lA.stackTraces = false) {D : jv_D} {base : Nat} {x : Nat} {q : Nat → Nat} {h0 h : jv_H} {a b p : Nat} {A B : List mT} (hS0 : rf_S x q h0) (ha : a < 8) (hb : b < 8) (hp : p < 5) (hEA : rf_E q h0 a A) (hEB : rf_E q h0 b B) (hVA : rf_V q h0 a A) (hVB : rf_V q h0 b B) (gA : ∀ k, k < A.length → m_hg A 11 k) (gB : ∀ k, k < B.length → m_hg B 11 k) {kd : Nat} {t n s : Int32} (hkd : kd < 6) (hpb : pb x q a p h0 h) : jv_Met lA D base yX8_breaksAny (.code yX8_breaksAny cX8_breaksAny 9 (some .boolean)) 17 0 0 [.ref x, .int (nI a), .int (nI b), .int (nI kd), .int t, .int n, .int s] h (fun v h' => v = some (.int (jv_bI (m_bka (decide (b = a)) A B p kd t n s))) ∧ pb x q a p h0 h') jv_no := by
  refine jv_ofV (lo := [(0, .ref x), (1, .int (nI a)), (2, .int (nI b)), (3, .int (nI kd)), (4, .int t), (5, .int n), (6, .int s)]) hlt (by decide) (Nat.le_of_ble_eq_true rfl) rfl (fun E hEl hEd hEz Z G hr ht hnm => ?_)
  subst hEl; subst hEd; subst hEz
  obtain ⟨hrs, hce, hpk, hsu, hx0⟩ := id hpb
  have hS := hrs.S hS0
  have hEA1 := hrs.E hS0 hEA; have hEB1 := hrs.E hS0 hEB; have hVA1 := hrs.V hS0 hVA; have hVB1 := hrs.V hS0 hVB
  have hla := hEA.2.1
  refine jv_iload_n (q := 1) G 3 dX8_breaksAny_0 rfl rfl rfl ?_
  refine jv_iconst (q := 2) (v := nI 2) G dX8_breaksAny_1 (by decide) rfl ?_
  refine jv_icmp_eqN (q := 5) (tgt := 24) G dX8_breaksAny_2 (by decide) rfl (by omega) (by omega) (fun c1 => ?_) (fun c1 => ?_)
  · refine jv_iconst (q := 25) (v := nI 0) G dX8_breaksAny_24 (by decide) rfl ?_
    refine jv_istore (q := 27) (lo' := [(7, .int (nI 0)), (0, .ref x), (1, .int (nI a)), (2, .int (nI b)), (3, .int (nI kd)), (4, .int t), (5, .int n), (6, .int s)]) G dX8_breaksAny_25 (by decide) rfl rfl ?_
    refine jv_bipush (q := 29) (v := nI 10) G dX8_breaksAny_27 (by decide) rfl ?_
    refine jv_iload_n (q := 30) G 2 dX8_breaksAny_29 rfl rfl rfl ?_
    refine jv_imulN (q := 31) G dX8_breaksAny_30 rfl ?_
    refine jv_istore (q := 33) (lo' := [(8, .int (nI (10 * a))), (7, .int (nI 0)), (0, .ref x), (1, .int (nI a)), (2, .int (nI b)), (3, .int (nI kd)), (4, .int t), (5, .int n), (6, .int s)]) G dX8_breaksAny_31 (by decide) rfl rfl ?_
    show jv_V E 9 h 0 0 (jv_Q E (fun v h' => v = some (.int (jv_bI (m_bka (decide (b = a)) A B p kd t n s))) ∧ pb x q a p h0 h') jv_no 0 0) 33 [(8, .int (nI (10 * a + 0))), (7, .int (jv_bI (m_any (m_bkr (decide (b = a)) A B p kd t n s) 0))), (0, .ref x), (1, .int (nI a)), (2, .int (nI b)), (3, .int (nI kd)), (4, .int t), (5, .int n), (6, .int s)] []
    refine r_bka hS0 ha hb hp hEA hEB hVA hVB gA gB hkd hlt G Z (fun h2 hpb2 => ?_) A.length 0 _ (by omega) hpb
    refine jv_iload (q := 83) G 0 dX8_breaksAny_81 rfl rfl ?_
    refine jv_zret G hr dX8_breaksAny_83 (Nat.le_of_ble_eq_true rfl) (Nat.le_of_ble_eq_true rfl) ?_
    refine ⟨?_, hpb2⟩
    unfold m_bka
    rw [if_pos (by omega)]
  · refine jv_iload_n (q := 6) G 3 dX8_breaksAny_5 rfl rfl rfl ?_
    refine jv_iconst (q := 7) (v := nI 4) G dX8_breaksAny_6 (by decide) rfl ?_
    refine jv_icmp_eqN (q := 10) (tgt := 24) G dX8_breaksAny_7 (by decide) rfl (by omega) (by omega) (fun c2 => ?_) (fun c2 => ?_)
    · refine jv_iconst (q := 25) (v := nI 0) G dX8_breaksAny_24 (by decide) rfl ?_
      refine jv_istore (q := 27) (lo' := [(7, .int (nI 0)), (0, .ref x), (1, .int (nI a)), (2, .int (nI b)), (3, .int (nI kd)), (4, .int t), (5, .int n), (6, .int s)]) G dX8_breaksAny_25 (by decide) rfl rfl ?_
      refine jv_bipush (q := 29) (v := nI 10) G dX8_breaksAny_27 (by decide) rfl ?_
      refine jv_iload_n (q := 30) G 2 dX8_breaksAny_29 rfl rfl rfl ?_
      refine jv_imulN (q := 31) G dX8_breaksAny_30 rfl ?_
      refine jv_istore (q := 33) (lo' := [(8, .int (nI (10 * a))), (7, .int (nI 0)), (0, .ref x), (1, .int (nI a)), (2, .int (nI b)), (3, .int (nI kd)), (4, .int t), (5, .int n), (6, .int s)]) G dX8_breaksAny_31 (by decide) rfl rfl ?_
      show jv_V E 9 h 0 0 (jv_Q E (fun v h' => v = some (.int (jv_bI (m_bka (decide (b = a)) A B p kd t n s))) ∧ pb x q a p h0 h') jv_no 0 0) 33 [(8, .int (nI (10 * a + 0))), (7, .int (jv_bI (m_any (m_bkr (decide (b = a)) A B p kd t n s) 0))), (0, .ref x), (1, .int (nI a)), (2, .int (nI b)), (3, .int (nI kd)), (4, .int t), (5, .int n), (6, .int s)] []
      refine r_bka hS0 ha hb hp hEA hEB hVA hVB gA gB hkd hlt G Z (fun h2 hpb2 => ?_) A.length 0 _ (by omega) hpb
      refine jv_iload (q := 83) G 0 dX8_breaksAny_81 rfl rfl ?_
      refine jv_zret G hr dX8_breaksAny_83 (Nat.le_of_ble_eq_true rfl) (Nat.le_of_ble_eq_true rfl) ?_
      refine ⟨?_, hpb2⟩
      unfold m_bka
      rw [if_pos (by omega)]
    · refine jv_aload_n (q := 11) G 0 dX8_breaksAny_10 rfl rfl rfl ?_
      refine jv_iload_n (q := 12) G 2 dX8_breaksAny_11 rfl rfl rfl ?_
      refine jv_iload_n (q := 13) G 3 dX8_breaksAny_12 rfl rfl rfl ?_
      refine jv_iload (q := 15) G 4 dX8_breaksAny_13 rfl rfl ?_
      refine jv_iload (q := 17) G 5 dX8_breaksAny_15 rfl rfl ?_
      refine jv_iload (q := 19) G 6 dX8_breaksAny_17 rfl rfl ?_
      refine jv_iconst (q := 20) (v := (-1)) G dX8_breaksAny_19 (by decide) rfl ?_
      refine jv_callV (q := 23) (As := [.int (nI b), .int (nI kd), .int t, .int n, .int s, .int (-1)]) (rest := []) G Z ml_X8_248 (r_breaks hlt hS0 ha hb hp hEA hEB hVA hVB gA gB hkd hpb) hS.1 dX8_breaksAny_20 rfl (by decide) (by decide) (by decide) (by decide) (Nat.le_of_ble_eq_true rfl) rfl rfl (fun v4 h3 y5 => ?_) (fun _ _ hx => hx.elim)
      obtain ⟨rfl, hpb⟩ := y5
      show jv_V E 9 h3 0 0 (jv_Q E (fun v h' => v = some (.int (jv_bI (m_bka (decide (b = a)) A B p kd t n s))) ∧ pb x q a p h0 h') jv_no 0 0) 23 [(0, .ref x), (1, .int (nI a)), (2, .int (nI b)), (3, .int (nI kd)), (4, .int t), (5, .int n), (6, .int s)] [.int (jv_bI (m_brk (decide (b = a)) A B p kd t n s ((-1))))]
      clear hrs hce hpk hsu hx0 hS hEA1 hEB1 hVA1 hVB1
      obtain ⟨hrs, hce, hpk, hsu, hx0⟩ := id hpb
      have hS := hrs.S hS0
      have hEA1 := hrs.E hS0 hEA; have hEB1 := hrs.E hS0 hEB; have hVA1 := hrs.V hS0 hVA; have hVB1 := hrs.V hS0 hVB
      have hla := hEA.2.1
      refine jv_zret G hr dX8_breaksAny_23 (Nat.le_of_ble_eq_true rfl) (Nat.le_of_ble_eq_true rfl) ?_
      refine ⟨?_, hpb⟩
      unfold m_bka
      rw [if_neg (by omega)]
