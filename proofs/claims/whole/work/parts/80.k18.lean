/-! CLIMBING: what is above, in the order in which it is met -/
def c_if (step : List Nat → Int32 → List Nat) (fs : List Nat) (U : List Nat) : Nat → List Nat
  | 0 => U
  | i + 1 => match fs[i]? with
    | none => c_if step fs U i
    | some x => step (c_if step fs U i) (nI x)
def c_ct (ts : List mT) : Nat → List Nat → Int32 → List Nat
  | 0, U, _ => U
  | d + 1, U, v => match (m_at ts v).bind (fun k => ts[k]?) with
    | none => U
    | some t => if mt_n t ∈ U then U else c_ct ts d (c_if (c_ct ts d) (mt_f t) (m_au U (mt_n t)) (mt_f t).length) (jv_oN (mt_u t))
def c_cl (ts : List mT) (d : Nat) (U : List Nat) (t : mT) : List Nat := c_ct ts d (c_if (c_ct ts d) (mt_f t) U (mt_f t).length) (jv_oN (mt_u t))
/-- only a type's uppers change -/
def uF (z : Nat → Nat → Nat) (a : Nat) (h h' : jv_H) : Prop := jv_sh h' = jv_sh h ∧ (∀ b j, jv_P h' b j = jv_P h b j) ∧ (∀ b j, jv_L h' b j = jv_L h b j) ∧ ∀ b j, ¬ (b = a ∧ (j = 13 ∨ j = 14)) → b ≠ z 10 a → jv_I h' b j = jv_I h b j
section UF
variable {z : Nat → Nat → Nat} {T : Nat → Nat} {N : Nat → Nat → Nat} {h h1 h2 : jv_H} {a e : Nat} {ts : List mT}
theorem uF.rf : uF z a h h := ⟨rfl, fun _ _ => rfl, fun _ _ => rfl, fun _ _ _ _ => rfl⟩
theorem uF.tr (f : uF z a h h1) (g : uF z a h1 h2) : uF z a h h2 := ⟨g.1.trans f.1, fun b j => (g.2.1 b j).trans (f.2.1 b j), fun b j => (g.2.2.1 b j).trans (f.2.2.1 b j), fun b j n m => (g.2.2.2 b j n m).trans (f.2.2.2 b j n m)⟩
theorem uF.E (f : uF z a h h1) (ha : jv_sh h a = some (.inl 5)) (h10 : jv_sh h (z 10 a) = some (.inr (.int, 10))) (r : cv_E z T N h e ts) : cv_E z T N h1 e ts := by
  obtain ⟨⟨r1, r2, r3, r4, r5, r6, r7⟩, r8, r9, r10, r11, r12⟩ := r
  have sh : ∀ b, jv_sh h1 b = jv_sh h b := fun b => congrFun f.1 b
  have ix : ∀ b s, jv_sh h b = some s → s ≠ .inl 5 → s ≠ .inr (.int, 10) → ∀ j, jv_I h1 b j = jv_I h b j := fun b s hs n1 n2 j => f.2.2.2 b j (fun q => n1 (by rw [q.1, ha] at hs; exact (Option.some.inj hs).symm)) (fun q => n2 (by rw [q, h10] at hs; exact (Option.some.inj hs).symm))
  have it : ∀ b, jv_sh h b = some (.inl 5) → ∀ j, j ≠ 13 → j ≠ 14 → jv_I h1 b j = jv_I h b j := fun b hs j n1 n2 => f.2.2.2 b j (fun q => q.2.elim n1 n2) (fun q => by rw [q, h10] at hs; cases hs)
  refine ⟨⟨(sh _).trans r1, (f.2.1 _ _).trans r2, (sh _).trans r3, (f.2.1 _ _).trans r4, (sh _).trans r5, (ix _ _ r1 (by intro q; cases q) (by intro q; cases q) 0).trans r6, fun k hk => (f.2.1 _ _).trans (r7 k hk)⟩, fun k hk => ?_, (ix _ _ r1 (by intro q; cases q) (by intro q; cases q) 3).trans r9, r10, fun k t ht => ?_, fun n hn => (f.2.1 _ _).trans (r12 n hn)⟩
  · obtain ⟨s1, s2, s3, s4, s5, s6, s7, s8⟩ := r8 k hk
    exact ⟨(sh _).trans s1, (f.2.1 _ _).trans s2, (sh _).trans s3, (f.2.1 _ _).trans s4, (sh _).trans s5, (f.2.1 _ _).trans s6, (sh _).trans s7, fun j hj => ⟨(f.2.1 _ _).trans (s8 j hj).1, (sh _).trans (s8 j hj).2⟩⟩
  · obtain ⟨q, qo⟩ := r11 k t ht
    have hk : k < 10 := by have := jv_ltGet ht; omega
    have tl := r8 k hk
    have i5 := it _ tl.1
    refine ⟨⟨(i5 0 (by decide) (by decide)).trans q.1, (i5 1 (by decide) (by decide)).trans q.2.1, (i5 2 (by decide) (by decide)).trans q.2.2.1, (i5 3 (by decide) (by decide)).trans q.2.2.2.1, (i5 4 (by decide) (by decide)).trans q.2.2.2.2.1, (i5 5 (by decide) (by decide)).trans q.2.2.2.2.2.1, (i5 7 (by decide) (by decide)).trans q.2.2.2.2.2.2.1, (i5 9 (by decide) (by decide)).trans q.2.2.2.2.2.2.2.1, (f.2.2.1 _ _).trans q.2.2.2.2.2.2.2.2.1, (f.2.2.1 _ _).trans q.2.2.2.2.2.2.2.2.2.1, fun j v y => (ix _ _ tl.2.2.1 (by intro q; cases q) (by intro q; cases q) j).trans (ct_f q y), fun j m y => ?_⟩, qo⟩
    have hj : j < 6 := by have := jv_ltGet y; have := qo.2.2.2.2.2.1; omega
    have im := ix _ _ (tl.2.2.2.2.2.2.2 j hj).2 (by intro q; cases q) (by intro q; cases q)
    have c := ct_m q y
    exact ⟨(im 0).trans c.1, (im 1).trans c.2.1, (im 2).trans c.2.2.1, (im 3).trans c.2.2.2.1, (im 4).trans c.2.2.2.2.1, (im 5).trans c.2.2.2.2.2⟩
end UF
/-- a climbing type -/
def uP (z : Nat → Nat → Nat) (T : Nat → Nat) (N : Nat → Nat → Nat) (h : jv_H) (e : Nat) (ts : List mT) (a : Nat) (U : List Nat) : Prop := cv_E z T N h e ts ∧ cv_U z h a U ∧ U.length ≤ 10 ∧ ∀ v ∈ U, v < 16
theorem au_ok {U : List Nat} {v : Nat} (hl : U.length ≤ 10) (h : ∀ x ∈ U, x < 16) (hv : v < 16) : (m_au U v).length ≤ 10 ∧ ∀ x ∈ m_au U v, x < 16 := by
  unfold m_au
  split
  · refine ⟨by rw [List.length_append, List.length_singleton]; omega, fun x hx => ?_⟩
    rw [List.mem_append, List.mem_singleton] at hx
    rcases hx with hx | hx
    · exact h x hx
    · omega
  · exact ⟨hl, h⟩
set_option maxHeartbeats 4000000 in
set_option maxRecDepth 100000 in
theorem k_cl_loop {lA : Launch} {D : jv_D} {base : Nat} {E : jv_E} {Q : State → Prop} {z : Nat → Nat → Nat} {T : Nat → Nat} {N : Nat → Nat → Nat} {e ks : Nat} {ts : List mT} (hks : ks < ts.length) {d : Nat} (hd : d ≤ 11) (hC : ∀ (U : List Nat) (v : Int32) (h : jv_H), uP z T N h e ts (T (10 * e + ks)) U → jv_Met lA D base yX2_climbTo (.code yX2_climbTo cX2_climbTo 5 none) (2 + 2 * d) 0 0 [.ref (z 0 e), .ref (T (10 * e + ks)), .int v, .int (nI (11 - d))] h (fun y h' => y = none ∧ uF z (T (10 * e + ks)) h h' ∧ uP z T N h' e ts (T (10 * e + ks)) (c_ct ts d U v)) jv_no) (hEl : jv_l E = lA) (hEd : jv_d E = D) (hEz : jv_z E = base) (G : jv_C E cX2_climb RX2 5) (Z : jv_rm E = jv_room (3 + 2 * d) 0 0) {k : Nat} {t : mT} (ht : ts[k]? = some t) {h : jv_H} {U : List Nat} (hk : ∀ h2, uF z (T (10 * e + ks)) h h2 → uP z T N h2 e ts (T (10 * e + ks)) (c_if (c_ct ts d) (mt_f t) U (mt_f t).length) → jv_V E 5 h2 0 0 Q 31 [(0, .ref (z 0 e)), (1, .ref (T (10 * e + ks))), (2, .ref (T (10 * e + k))), (3, .int (nI (11 - d)))] []) : ∀ (n i : Nat) (h1 : jv_H), i + n = (mt_f t).length → uF z (T (10 * e + ks)) h h1 → uP z T N h1 e ts (T (10 * e + ks)) (c_if (c_ct ts d) (mt_f t) U i) → jv_V E 5 h1 0 0 Q 3 [(4, .int (nI i)), (0, .ref (z 0 e)), (1, .ref (T (10 * e + ks))), (2, .ref (T (10 * e + k))), (3, .int (nI (11 - d)))] [] := by
  subst hEl; subst hEd; subst hEz
  intro n
  induction n with
  | zero =>
    intro i h1 hn hF hP
    have hE := hP.1
    have hl10 := hE.2.2.2.1
    have hks10 : ks < 10 := by omega
    have lt := jv_ltGet ht
    have k10t : k < 10 := by have := hE.2.2.2.1; omega
    have Ot := (hE.2.2.2.2.1 k t ht).2
    have Vt := (hE.2.2.2.2.1 k t ht).1
    have Yt := hE.2.1 k k10t
    have btn := Ot.1; have btk := Ot.2.1
    have hl3 := Ot.2.2.2.1
    refine jv_iload (q := 5) G 0 dX2_climb_3 rfl rfl ?_
    refine jv_aload_n (q := 6) G 3 dX2_climb_5 rfl rfl rfl ?_
    refine jv_getI (q := 9) G dX2_climb_6 fl_X2_60 rfl (hE.2.1 k k10t).1 (ct_7 (hE.2.2.2.2.1 k t ht).1) rfl ?_
    refine jv_icmp_geN (q := 12) (tgt := 31) G dX2_climb_9 (by decide) rfl (by omega) (by omega) (fun c1 => ?_) (fun c1 => ?_)
    · refine jv_lo [1, 2, 3, 4] (lo' := [(0, .ref (z 0 e)), (1, .ref (T (10 * e + ks))), (2, .ref (T (10 * e + k))), (3, .int (nI (11 - d)))]) rfl ?_
      rw [show i = (mt_f t).length by omega] at hP
      exact hk _ hF hP
    · omega
  | succ n ih =>
    intro i h1 hn hF hP
    have hE := hP.1
    have hl10 := hE.2.2.2.1
    have hks10 : ks < 10 := by omega
    have lt := jv_ltGet ht
    have k10t : k < 10 := by have := hE.2.2.2.1; omega
    have Ot := (hE.2.2.2.2.1 k t ht).2
    have Vt := (hE.2.2.2.2.1 k t ht).1
    have Yt := hE.2.1 k k10t
    have btn := Ot.1; have btk := Ot.2.1
    have hl3 := Ot.2.2.2.1
    obtain ⟨v, hv⟩ := jv_getLt (l := mt_f t) (k := i) (by omega)
    have hf := ct_f Vt hv
    refine jv_iload (q := 5) G 0 dX2_climb_3 rfl rfl ?_
    refine jv_aload_n (q := 6) G 3 dX2_climb_5 rfl rfl rfl ?_
    refine jv_getI (q := 9) G dX2_climb_6 fl_X2_60 rfl (hE.2.1 k k10t).1 (ct_7 (hE.2.2.2.2.1 k t ht).1) rfl ?_
    refine jv_icmp_geN (q := 12) (tgt := 31) G dX2_climb_9 (by decide) rfl (by omega) (by omega) (fun c1 => ?_) (fun c1 => ?_)
    · omega
    · refine jv_aload_n (q := 13) G 1 dX2_climb_12 rfl rfl rfl ?_
      refine jv_aload_n (q := 14) G 2 dX2_climb_13 rfl rfl rfl ?_
      refine jv_aload_n (q := 15) G 3 dX2_climb_14 rfl rfl rfl ?_
      refine jv_getQ (q := 18) G dX2_climb_15 fl_X2_63 rfl (hE.2.1 k k10t).1 (hE.2.1 k k10t).2.1 rfl ?_
      refine jv_iload (q := 20) G 0 dX2_climb_18 rfl rfl ?_
      refine jv_iald (q := 21) G dX2_climb_20 (hE.2.1 k k10t).2.2.1 rfl (by omega) (by decide) hf rfl ?_
      refine jv_iload_n (q := 22) G 4 dX2_climb_21 rfl rfl rfl ?_
      refine jv_callS (q := 25) (As := [.ref (z 0 e), .ref (T (10 * e + ks)), .int (nI v), .int (nI (11 - d))]) (rest := []) G Z ml_X2_81 (hC (c_if (c_ct ts d) (mt_f t) U i) (nI v) _ hP) dX2_climb_22 rfl (by omega) (by decide) (by decide) (by decide) (Nat.le_of_ble_eq_true rfl) rfl rfl (fun v3 h2 y4 => ?_) (fun _ _ hx => hx.elim)
      obtain ⟨rfl, hF2, hP2⟩ := y4
      show jv_V E 5 h2 0 0 Q 25 [(4, .int (nI i)), (0, .ref (z 0 e)), (1, .ref (T (10 * e + ks))), (2, .ref (T (10 * e + k))), (3, .int (nI (11 - d)))] []
      refine jv_iinc (q := 28) (lo' := [(4, .int (nI (i + 1))), (0, .ref (z 0 e)), (1, .ref (T (10 * e + ks))), (2, .ref (T (10 * e + k))), (3, .int (nI (11 - d)))]) (v := nI (i + 1)) G 0 dX2_climb_25 rfl (nI_1 i) (by decide) rfl rfl ?_
      refine jv_goto (q := 3) G dX2_climb_28 (by decide) ?_
      refine jv_lo [0, 1, 2, 3, 4] (lo' := [(4, .int (nI (i + 1))), (0, .ref (z 0 e)), (1, .ref (T (10 * e + ks))), (2, .ref (T (10 * e + k))), (3, .int (nI (11 - d)))]) rfl ?_
      refine ih (i + 1) _ (by omega) (hF.tr hF2) ?_
      rw [c_if, hv]; exact hP2
set_option maxHeartbeats 4000000 in
set_option maxRecDepth 100000 in
theorem k_climb {lA : Launch} (hlt : lA.stackTraces = false) {D : jv_D} {base : Nat} {z : Nat → Nat → Nat} {T : Nat → Nat} {N : Nat → Nat → Nat} {e ks : Nat} {ts : List mT} (hks : ks < ts.length) {d : Nat} (hd : d ≤ 11) (hC : ∀ (U : List Nat) (v : Int32) (h : jv_H), uP z T N h e ts (T (10 * e + ks)) U → jv_Met lA D base yX2_climbTo (.code yX2_climbTo cX2_climbTo 5 none) (2 + 2 * d) 0 0 [.ref (z 0 e), .ref (T (10 * e + ks)), .int v, .int (nI (11 - d))] h (fun y h' => y = none ∧ uF z (T (10 * e + ks)) h h' ∧ uP z T N h' e ts (T (10 * e + ks)) (c_ct ts d U v)) jv_no) {k : Nat} {t : mT} (ht : ts[k]? = some t) {h : jv_H} {U : List Nat} (hP : uP z T N h e ts (T (10 * e + ks)) U) : jv_Met lA D base yX2_climb (.code yX2_climb cX2_climb 5 none) (3 + 2 * d) 0 0 [.ref (z 0 e), .ref (T (10 * e + ks)), .ref (T (10 * e + k)), .int (nI (11 - d))] h (fun y h' => y = none ∧ uF z (T (10 * e + ks)) h h' ∧ uP z T N h' e ts (T (10 * e + ks)) (c_cl ts d U t)) jv_no := by
  refine jv_ofV (lo := [(0, .ref (z 0 e)), (1, .ref (T (10 * e + ks))), (2, .ref (T (10 * e + k))), (3, .int (nI (11 - d)))]) hlt (by decide) (Nat.le_of_ble_eq_true rfl) rfl (fun E hEl hEd hEz Z G hr hti hnm => ?_)
  subst hEl; subst hEd; subst hEz
  refine jv_iconst (q := 1) (v := nI 0) G dX2_climb_0 (by decide) rfl ?_
  refine jv_istore (q := 3) (lo' := [(4, .int (nI 0)), (0, .ref (z 0 e)), (1, .ref (T (10 * e + ks))), (2, .ref (T (10 * e + k))), (3, .int (nI (11 - d)))]) G dX2_climb_1 (by decide) rfl rfl ?_
  refine jv_lo [0, 1, 2, 3, 4] (lo' := [(4, .int (nI 0)), (0, .ref (z 0 e)), (1, .ref (T (10 * e + ks))), (2, .ref (T (10 * e + k))), (3, .int (nI (11 - d)))]) rfl ?_
  refine k_cl_loop hks hd hC rfl rfl rfl G Z ht (fun h2 hF hP => ?_) (mt_f t).length 0 _ (by omega) uF.rf hP
  have hE := hP.1
  have hl10 := hE.2.2.2.1
  have hks10 : ks < 10 := by omega
  have lt := jv_ltGet ht
  have k10t : k < 10 := by have := hE.2.2.2.1; omega
  have Ot := (hE.2.2.2.2.1 k t ht).2
  have Vt := (hE.2.2.2.2.1 k t ht).1
  have Yt := hE.2.1 k k10t
  have btn := Ot.1; have btk := Ot.2.1
  refine jv_aload_n (q := 32) G 0 dX2_climb_31 rfl rfl rfl ?_
  refine jv_aload_n (q := 33) G 1 dX2_climb_32 rfl rfl rfl ?_
  refine jv_aload_n (q := 34) G 2 dX2_climb_33 rfl rfl rfl ?_
  refine jv_getI (q := 37) G dX2_climb_34 fl_X2_54 rfl (hE.2.1 k k10t).1 (ct_5 (hE.2.2.2.2.1 k t ht).1) rfl ?_
  refine jv_iload_n (q := 38) G 3 dX2_climb_37 rfl rfl rfl ?_
  refine jv_callS (q := 41) (As := [.ref (z 0 e), .ref (T (10 * e + ks)), .int (jv_oN (mt_u t)), .int (nI (11 - d))]) (rest := []) G Z ml_X2_81 (hC (c_if (c_ct ts d) (mt_f t) U (mt_f t).length) (jv_oN (mt_u t)) _ hP) dX2_climb_38 rfl (by omega) (by decide) (by decide) (by decide) (Nat.le_of_ble_eq_true rfl) rfl rfl (fun v2 h1 y3 => ?_) (fun _ _ hx => hx.elim)
  obtain ⟨rfl, hF2, hP2⟩ := y3
  show jv_V E 5 h1 0 0 (jv_Q E (fun y h' => y = none ∧ uF z (T (10 * e + ks)) h h' ∧ uP z T N h' e ts (T (10 * e + ks)) (c_cl ts d U t)) jv_no 0 0) 41 [(0, .ref (z 0 e)), (1, .ref (T (10 * e + ks))), (2, .ref (T (10 * e + k))), (3, .int (nI (11 - d)))] []
  refine jv_vret G hr dX2_climb_41 (Nat.le_of_ble_eq_true rfl) (Nat.le_of_ble_eq_true rfl) ?_
  exact ⟨rfl, hF.tr hF2, hP2⟩
set_option maxHeartbeats 4000000 in
set_option maxRecDepth 100000 in
theorem k_climbTo {lA : Launch} (hlt : lA.stackTraces = false) {D : jv_D} {base : Nat} {z : Nat → Nat → Nat} {T : Nat → Nat} {N : Nat → Nat → Nat} {e ks : Nat} {ts : List mT} (hks : ks < ts.length) : ∀ (d : Nat), d ≤ 11 → ∀ (U : List Nat) (v : Int32) (h : jv_H), uP z T N h e ts (T (10 * e + ks)) U → jv_Met lA D base yX2_climbTo (.code yX2_climbTo cX2_climbTo 5 none) (2 + 2 * d) 0 0 [.ref (z 0 e), .ref (T (10 * e + ks)), .int v, .int (nI (11 - d))] h (fun y h' => y = none ∧ uF z (T (10 * e + ks)) h h' ∧ uP z T N h' e ts (T (10 * e + ks)) (c_ct ts d U v)) jv_no := by
  intro d
  induction d with
  | zero =>
    intro hd U v h hP
    refine jv_ofV (lo := [(0, .ref (z 0 e)), (1, .ref (T (10 * e + ks))), (2, .int v), (3, .int (nI (11 - 0)))]) hlt (by decide) (Nat.le_of_ble_eq_true rfl) rfl (fun E hEl hEd hEz Z G hr hti hnm => ?_)
    subst hEl; subst hEd; subst hEz
    have hE := hP.1
    have hl10 := hE.2.2.2.1
    have hks10 : ks < 10 := by omega
    obtain ⟨ts_, hts⟩ := jv_getLt (l := ts) (k := ks) hks
    have tla := hE.2.1 ks hks10
    have hum := um_lt hP.2.2.2
    refine jv_aload_n (q := 1) G 0 dX2_climbTo_0 rfl rfl rfl ?_
    refine jv_iload_n (q := 2) G 2 dX2_climbTo_1 rfl rfl rfl ?_
    refine jv_callV_R (q := 5) (h1 := h) (As := [.int v]) (rest := []) (ce' := 0) (sl' := 0) (r := ((m_at ts v).map (fun k => T (10 * e + k)))) G Z ml_X2_25 (k_named hlt hE) hE.1.1 dX2_climbTo_2 rfl (by omega) (by decide) (by decide) (by decide) (Nat.le_of_ble_eq_true rfl) rfl rfl rfl rfl ?_
    rcases Option.eq_none_or_eq_some (m_at ts v) with hk3 | ⟨k1, hk3⟩
    · refine jv_topR (y := none) (by rw [hk3]; rfl) ?_
      refine jv_astoreR (q := 7) (lo' := [(4, va_rf none), (0, .ref (z 0 e)), (1, .ref (T (10 * e + ks))), (2, .int v), (3, .int (nI (11 - 0)))]) (x := none) G dX2_climbTo_5 (by decide) rfl rfl ?_
      refine jv_aloadR (q := 9) G 0 dX2_climbTo_7 rfl rfl ?_
      refine jv_ifnull (q := 12) (tgt := 26) (x := none) G dX2_climbTo_9 (by decide) rfl (fun c4 => ?_) (fun a5 c4 => ?_)
      · refine jv_vret G hr dX2_climbTo_26 (Nat.le_of_ble_eq_true rfl) (Nat.le_of_ble_eq_true rfl) ?_
        exact ⟨rfl, uF.rf, hP⟩
      · cases c4
    · refine jv_topR (y := (some (T (10 * e + k1)))) (by rw [hk3]; rfl) ?_
      obtain ⟨t2, ht2, nt2⟩ := m_at_get hk3
      have lt2 := jv_ltGet ht2
      have k10t2 : k1 < 10 := by have := hE.2.2.2.1; omega
      have Ot2 := (hE.2.2.2.2.1 k1 t2 ht2).2
      have Vt2 := (hE.2.2.2.2.1 k1 t2 ht2).1
      have Yt2 := hE.2.1 k1 k10t2
      have bt2n := Ot2.1; have bt2k := Ot2.2.1
      refine jv_astore (q := 7) (lo' := [(4, .ref (T (10 * e + k1))), (0, .ref (z 0 e)), (1, .ref (T (10 * e + ks))), (2, .int v), (3, .int (nI (11 - 0)))]) G dX2_climbTo_5 (by decide) rfl rfl ?_
      refine jv_aload (q := 9) G 0 dX2_climbTo_7 rfl rfl ?_
      refine jv_ifnull (q := 12) (tgt := 26) (x := (some (T (10 * e + k1)))) G dX2_climbTo_9 (by decide) rfl (fun c6 => ?_) (fun a7 c6 => ?_)
      · cases c6
      · have hvn := nt2
        subst hvn
        refine jv_aload_n (q := 13) G 2 dX2_climbTo_12 rfl rfl rfl ?_
        refine jv_iload_n (q := 14) G 3 dX2_climbTo_13 rfl rfl rfl ?_
        refine jv_callV_I (q := 17) (h1 := h) (As := [.int (nI (mt_n t2))]) (rest := []) (ce' := 0) (sl' := 0) (r := jv_bI ((m_um U).testBit (mt_n t2))) G Z ml_X2_77 (k_isUnder hlt tla.1 hP.2.1.2.1 hum bt2n) tla.1 dX2_climbTo_14 rfl (by omega) (by decide) (by decide) (by decide) (Nat.le_of_ble_eq_true rfl) rfl rfl rfl rfl ?_
        refine jv_if_neB (q := 20) (tgt := 26) G dX2_climbTo_17 (by decide) rfl (fun c8 => ?_) (fun c8 => ?_)
        · rw [um_bit] at c8
          refine jv_vret G hr dX2_climbTo_26 (Nat.le_of_ble_eq_true rfl) (Nat.le_of_ble_eq_true rfl) ?_
          exact ⟨rfl, uF.rf, hP⟩
        · rw [um_bit] at c8
          refine jv_iload_n (q := 21) G 4 dX2_climbTo_20 rfl rfl rfl ?_
          refine jv_bipush (q := 23) (v := nI 10) G dX2_climbTo_21 (by decide) rfl ?_
          refine jv_icmp_leN (q := 26) (tgt := 27) G dX2_climbTo_23 (by decide) rfl (by omega) (by omega) (fun c9 => ?_) (fun c9 => ?_)
          · omega
          · refine jv_vret G hr dX2_climbTo_26 (Nat.le_of_ble_eq_true rfl) (Nat.le_of_ble_eq_true rfl) ?_
            exact ⟨rfl, uF.rf, hP⟩
  | succ d ih =>
    intro hd U v h hP
    refine jv_ofV (lo := [(0, .ref (z 0 e)), (1, .ref (T (10 * e + ks))), (2, .int v), (3, .int (nI (11 - (d + 1))))]) hlt (by decide) (Nat.le_of_ble_eq_true rfl) rfl (fun E hEl hEd hEz Z G hr hti hnm => ?_)
    subst hEl; subst hEd; subst hEz
    have hE := hP.1
    have hl10 := hE.2.2.2.1
    have hks10 : ks < 10 := by omega
    obtain ⟨ts_, hts⟩ := jv_getLt (l := ts) (k := ks) hks
    have tla := hE.2.1 ks hks10
    have hum := um_lt hP.2.2.2
    refine jv_aload_n (q := 1) G 0 dX2_climbTo_0 rfl rfl rfl ?_
    refine jv_iload_n (q := 2) G 2 dX2_climbTo_1 rfl rfl rfl ?_
    refine jv_callV_R (q := 5) (h1 := h) (As := [.int v]) (rest := []) (ce' := 0) (sl' := 0) (r := ((m_at ts v).map (fun k => T (10 * e + k)))) G Z ml_X2_25 (k_named hlt hE) hE.1.1 dX2_climbTo_2 rfl (by omega) (by decide) (by decide) (by decide) (Nat.le_of_ble_eq_true rfl) rfl rfl rfl rfl ?_
    rcases Option.eq_none_or_eq_some (m_at ts v) with hk3 | ⟨k1, hk3⟩
    · refine jv_topR (y := none) (by rw [hk3]; rfl) ?_
      refine jv_astoreR (q := 7) (lo' := [(4, va_rf none), (0, .ref (z 0 e)), (1, .ref (T (10 * e + ks))), (2, .int v), (3, .int (nI (11 - (d + 1))))]) (x := none) G dX2_climbTo_5 (by decide) rfl rfl ?_
      refine jv_aloadR (q := 9) G 0 dX2_climbTo_7 rfl rfl ?_
      refine jv_ifnull (q := 12) (tgt := 26) (x := none) G dX2_climbTo_9 (by decide) rfl (fun c4 => ?_) (fun a5 c4 => ?_)
      · refine jv_vret G hr dX2_climbTo_26 (Nat.le_of_ble_eq_true rfl) (Nat.le_of_ble_eq_true rfl) ?_
        refine ⟨rfl, uF.rf, ?_⟩; rw [c_ct, hk3]; exact hP
      · cases c4
    · refine jv_topR (y := (some (T (10 * e + k1)))) (by rw [hk3]; rfl) ?_
      obtain ⟨t2, ht2, nt2⟩ := m_at_get hk3
      have lt2 := jv_ltGet ht2
      have k10t2 : k1 < 10 := by have := hE.2.2.2.1; omega
      have Ot2 := (hE.2.2.2.2.1 k1 t2 ht2).2
      have Vt2 := (hE.2.2.2.2.1 k1 t2 ht2).1
      have Yt2 := hE.2.1 k1 k10t2
      have bt2n := Ot2.1; have bt2k := Ot2.2.1
      refine jv_astore (q := 7) (lo' := [(4, .ref (T (10 * e + k1))), (0, .ref (z 0 e)), (1, .ref (T (10 * e + ks))), (2, .int v), (3, .int (nI (11 - (d + 1))))]) G dX2_climbTo_5 (by decide) rfl rfl ?_
      refine jv_aload (q := 9) G 0 dX2_climbTo_7 rfl rfl ?_
      refine jv_ifnull (q := 12) (tgt := 26) (x := (some (T (10 * e + k1)))) G dX2_climbTo_9 (by decide) rfl (fun c6 => ?_) (fun a7 c6 => ?_)
      · cases c6
      · have hvn := nt2
        subst hvn
        refine jv_aload_n (q := 13) G 2 dX2_climbTo_12 rfl rfl rfl ?_
        refine jv_iload_n (q := 14) G 3 dX2_climbTo_13 rfl rfl rfl ?_
        refine jv_callV_I (q := 17) (h1 := h) (As := [.int (nI (mt_n t2))]) (rest := []) (ce' := 0) (sl' := 0) (r := jv_bI ((m_um U).testBit (mt_n t2))) G Z ml_X2_77 (k_isUnder hlt tla.1 hP.2.1.2.1 hum bt2n) tla.1 dX2_climbTo_14 rfl (by omega) (by decide) (by decide) (by decide) (Nat.le_of_ble_eq_true rfl) rfl rfl rfl rfl ?_
        refine jv_if_neB (q := 20) (tgt := 26) G dX2_climbTo_17 (by decide) rfl (fun c8 => ?_) (fun c8 => ?_)
        · rw [um_bit] at c8
          refine jv_vret G hr dX2_climbTo_26 (Nat.le_of_ble_eq_true rfl) (Nat.le_of_ble_eq_true rfl) ?_
          refine ⟨rfl, uF.rf, ?_⟩
          rw [c_ct, hk3, Option.bind_some, ht2]; dsimp only
          rw [if_pos (by simpa using c8)]; exact hP
        · rw [um_bit] at c8
          refine jv_iload_n (q := 21) G 4 dX2_climbTo_20 rfl rfl rfl ?_
          refine jv_bipush (q := 23) (v := nI 10) G dX2_climbTo_21 (by decide) rfl ?_
          refine jv_icmp_leN (q := 26) (tgt := 27) G dX2_climbTo_23 (by decide) rfl (by omega) (by omega) (fun c9 => ?_) (fun c9 => ?_)
          · refine jv_aload_n (q := 28) G 2 dX2_climbTo_27 rfl rfl rfl ?_
            refine jv_iload_n (q := 29) G 3 dX2_climbTo_28 rfl rfl rfl ?_
            refine jv_callV (q := 32) (As := [.int (nI (mt_n t2))]) (rest := []) G Z ml_X2_85 (k_addUpper hlt tla.1 tla.2.2.2.2.2.1 tla.2.2.2.2.2.2.1 hP.2.1 hP.2.2.1 hum bt2n) tla.1 dX2_climbTo_29 rfl (by omega) (by decide) (by decide) (by decide) (Nat.le_of_ble_eq_true rfl) rfl rfl (fun v11 h10 y12 => ?_) (fun _ _ hx => hx.elim)
            obtain ⟨rfl, hFa, hUa, hIa, hLa, hL10⟩ := y12
            show jv_V E 5 h10 0 0 (jv_Q E (fun y h' => y = none ∧ uF z (T (10 * e + ks)) h h' ∧ uP z T N h' e ts (T (10 * e + ks)) (c_ct ts (d + 1) U (nI (mt_n t2)))) jv_no 0 0) 32 [(4, .ref (T (10 * e + k1))), (0, .ref (z 0 e)), (1, .ref (T (10 * e + ks))), (2, .int (nI (mt_n t2))), (3, .int (nI (11 - (d + 1))))] []
            have hok := au_ok hP.2.2.1 hP.2.2.2 bt2n
            have hF1 : uF z (T (10 * e + ks)) h h10 := ⟨hFa.1, hFa.2.1, fun b j => (by
                by_cases q : b = (T (10 * e + ks))
                · rw [q]; exact hLa j
                · by_cases q2 : b = z 10 (T (10 * e + ks))
                  · rw [q2]; exact hL10 j
                  · exact hFa.l (fun s => s.elim q q2) j), fun b j n1 n2 => (by
                by_cases q : b = (T (10 * e + ks))
                · rw [q]; exact hIa j (fun s => n1 ⟨q, Or.inl s⟩) (fun s => n1 ⟨q, Or.inr s⟩)
                · exact hFa.i (fun s => s.elim q n2) j)⟩
            have hP1 : uP z T N h10 e ts (T (10 * e + ks)) (m_au U (mt_n t2)) := ⟨hF1.E tla.1 tla.2.2.2.2.2.2.1 hE, hUa, hok⟩
            refine jv_aload_n (q := 33) G 1 dX2_climbTo_32 rfl rfl rfl ?_
            refine jv_aload_n (q := 34) G 2 dX2_climbTo_33 rfl rfl rfl ?_
            refine jv_aload (q := 36) G 0 dX2_climbTo_34 rfl rfl ?_
            refine jv_iload_n (q := 37) G 4 dX2_climbTo_36 rfl rfl rfl ?_
            refine jv_iconst (q := 38) (v := nI 1) G dX2_climbTo_37 (by decide) rfl ?_
            refine jv_iaddN (q := 39) G dX2_climbTo_38 rfl ?_
            refine jv_topI (y := nI (11 - d)) (congrArg nI (by omega)) ?_
            refine jv_callS (q := 42) (As := [.ref (z 0 e), .ref (T (10 * e + ks)), .ref (T (10 * e + k1)), .int (nI (11 - d))]) (rest := []) G Z ml_X2_73 (k_climb (d := d) hlt hks (by omega) (ih (by omega)) ht2 hP1) dX2_climbTo_39 rfl (by omega) (by decide) (by decide) (by decide) (Nat.le_of_ble_eq_true rfl) rfl rfl (fun v14 h13 y15 => ?_) (fun _ _ hx => hx.elim)
            obtain ⟨rfl, hF2, hP2⟩ := y15
            show jv_V E 5 h13 0 0 (jv_Q E (fun y h' => y = none ∧ uF z (T (10 * e + ks)) h h' ∧ uP z T N h' e ts (T (10 * e + ks)) (c_ct ts (d + 1) U (nI (mt_n t2)))) jv_no 0 0) 42 [(4, .ref (T (10 * e + k1))), (0, .ref (z 0 e)), (1, .ref (T (10 * e + ks))), (2, .int (nI (mt_n t2))), (3, .int (nI (11 - (d + 1))))] []
            refine jv_vret G hr dX2_climbTo_42 (Nat.le_of_ble_eq_true rfl) (Nat.le_of_ble_eq_true rfl) ?_
            refine ⟨rfl, hF1.tr hF2, ?_⟩
            rw [c_ct, hk3, Option.bind_some, ht2]; dsimp only
            rw [if_neg (by simpa using c8)]; exact hP2
          · omega
