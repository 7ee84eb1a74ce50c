section TY
variable {z : Nat → Nat → Nat} {T : Nat → Nat} {N N' : Nat → Nat → Nat} {tO : Nat → Nat} {h h1 : jv_H} {M : mA}
theorem tF_ok {t : mT} {v : Nat} (ho : mt_ok t) (hl : (mt_f t).length < 3) (hv : v < 16) : mt_ok (m_tF t (mt_f t ++ [v])) := by
  refine ⟨ho.1, ho.2.1, ho.2.2.1, ?_, fun u hu => ?_, ho.2.2.2.2.2.1, ho.2.2.2.2.2.2⟩
  · show (mt_f t ++ [v]).length ≤ 3
    rw [List.length_append, List.length_singleton]; omega
  · have hu : u ∈ mt_f t ++ [v] := hu
    rcases List.mem_append.mp hu with q | q
    · exact ho.2.2.2.2.1 u q
    · rw [List.mem_singleton.mp q]; exact hv
/-- an open edition, one of its types anew -/
theorem cl_R.ty (hR : cl_R z T N tO h M) {e i : Nat} {t t' : mT} {S : Nat → Prop} (he : e < M.1.length) (hop : ma_s M e = false) (ht : (ma_t M e)[i]? = some t) (hn : mt_n t' = mt_n t) (ok : mt_ok t') (f : cG S h h1) (hS : ∀ b, S b → tO b = T (10 * e + i)) (hN : ∀ b, b ≠ T (10 * e + i) → ∀ j, N' b j = N b j) (ho : cl_o z N' tO (T (10 * e + i))) (hl : cl_t z N' h1 (T (10 * e + i))) (hv : cv_T z N' h1 (T (10 * e + i)) t') (ok2 : m_uk t' ∧ (mt_i t' = true → mt_a t' = true) ∧ m_kc t') : cl_R z T N' tO h1 (m_put M e (false, (ma_t M e).set i t')) ∧ sF cs h h1 := by
  have he8 : e < 8 := by have := hR.1.2.1.2.1; omega
  obtain ⟨hE, oe, hs, -⟩ := hR.1.2.2.1 e he8
  have hi10 : i < 10 := by have := jv_ltGet ht; have := hE.2.2.2.1; omega
  have dT := hR.2.2.2.2.2.2.1
  have nk : ∀ k, k < 80 → k ≠ 10 * e + i → T k ≠ T (10 * e + i) := fun k hk n q => n (dT _ _ hk (by omega) q)
  have n0 : ¬ S (z 0 e) := fun y => by
    have := (hS _ y).symm.trans oe.1
    exact sh_no (hR.T5 (show 10 * e + i < 80 by omega)) (hR.E2 he8) (by intro q; cases q) this
  obtain ⟨o1, o2, o3, o4, o5⟩ := oe
  have oe' : el_o z T N' tO e := ⟨o1, o2, o3, fun k hk => by
    by_cases q : k = i
    · subst q; exact ho
    · have hne := nk (10 * e + k) (by omega) (by omega)
      obtain ⟨a1, a2, a3, a4, a5, a6⟩ := o4 k hk
      exact ⟨a1, a2, a3, a4, fun j hj => by rw [hN _ hne j]; exact a5 j hj, fun x y hx hy q2 => by rw [hN _ hne x, hN _ hne y] at q2; exact a6 x y hx hy q2⟩, o5⟩
  refine hR.ed (T' := T) (N' := N') he hop (f.mono (fun b q => Or.inr ⟨i, hi10, hS b q⟩)) (fun _ _ _ => rfl) (fun k hk hd j => hN _ (nk k hk (by omega)) j) dT oe' (hE.set ⟨o1, o2, o3, o4, o5⟩ ht hn ok f hS (fun k hk hki j => hN _ (nk (10 * e + k) (by omega) (by omega)) j) hl hv) ((f.i n0 1).trans (hs.trans (by rw [hop]))) (fun q => by cases q) ⟨uq_set (hR.1.2.2.2 e he8).1 ht hn, fun x hx => ?_, fun q => by cases q⟩
  rcases mem_set hx with q | q
  · rw [q]; exact ok2
  · exact (hR.1.2.2.2 e he8).2.1 x q
theorem rr_cl {v : Int32} {n : Nat} (hn : n < 2 ^ 31) (h : rr_lt v n = true) : v = nI v.toNatClampNeg ∧ v.toNatClampNeg < n := by
  obtain ⟨k, hk, e, -⟩ := rr_lt_t hn h
  rw [e, nI_clamp (by omega)]
  exact ⟨rfl, hk⟩
theorem im_g {t : mT} {v : Int32} : (rr_in v (nI 0) (nI 15) && !m_fi t v) = (rr_lt v 16 && !m_fi t v) := by rw [rr_in0 (by decide)]
theorem im_eo {t : mT} {l : List Nat} (h : m_uk t ∧ (mt_i t = true → mt_a t = true) ∧ m_kc t) : m_uk (m_tF t l) ∧ (mt_i (m_tF t l) = true → mt_a (m_tF t l) = true) ∧ m_kc (m_tF t l) := h
end TY
set_option maxHeartbeats 4000000 in
set_option maxRecDepth 100000 in
theorem k_implement {lA : Launch} (hlt : lA.stackTraces = false) {D : jv_D} {base : Nat} {z : Nat → Nat → Nat} {T : Nat → Nat} {N : Nat → Nat → Nat} {tO : Nat → Nat} {h : jv_H} {M : mA} (hR : cl_R z T N tO h M) {p0 : Int32} {p1 : Int32} {p2 : Int32} : jv_Met lA D base yX7_implement (.code yX7_implement cX7_implement 5 (some .int)) 4 4 24 [.ref (z 6 0), .int p0, .int p1, .int p2] h (pC z tO h (m_im M p0 p1 p2)) (pX z tO h ["java/lang/IndexOutOfBoundsException", "java/lang/IllegalStateException", "java/lang/IllegalArgumentException", "java/lang/UnsupportedOperationException"] (m_im M p0 p1 p2)) := by
  refine jv_ofV (lo := [(0, .ref (z 6 0)), (1, .int p0), (2, .int p1), (3, .int p2)]) hlt (by decide) (Nat.le_of_ble_eq_true rfl) rfl (fun E hEl hEd hEz Z G hr ht hnm => ?_)
  subst hEl; subst hEd; subst hEz
  have hl8 := hR.1.2.1.2.1; have hl12 := hR.1.2.1.2.2.2
  refine jv_aload_n (q := 1) G 0 dX7_implement_0 rfl rfl rfl ?_
  refine jv_iload_n (q := 2) G 1 dX7_implement_1 rfl rfl rfl ?_
  refine jv_callV (q := 5) (As := [.int p0]) (rest := []) G Z ml_X7_59 (k_openEdition hlt hR) hR.1.1.1 dX7_implement_2 rfl (by decide) (by decide) (by decide) (by decide) (Nat.le_of_ble_eq_true rfl) rfl rfl (fun v2 h1 y3 => ?_) (fun cx hx yx => jv_out G ht (Nat.le_of_ble_eq_true rfl) (Nat.le_of_ble_eq_true rfl) (by obtain ⟨rfl, y1 | ⟨kq, y1, y2, y3⟩⟩ := yx; exact pX_o (o' := (1, 0, M)) (op_1 y1.1) ⟨(show ¬ (1 : Nat) = 0 by decide), y1.2, ⟨_, _, hR⟩, .rf⟩; exact pX_o (o' := (2, 0, M)) (op_2 y1 y2) ⟨(show ¬ (2 : Nat) = 0 by decide), y3, ⟨_, _, hR⟩, .rf⟩))
  obtain ⟨u0, hu0, rfl, zu0, hsu0, rfl, rfl⟩ := y3
  show jv_V E 5 h (0 + 2) (0 + 12) (jv_Q E (pC z tO h (m_im M (nI u0) p1 p2)) (pX z tO h ["java/lang/IndexOutOfBoundsException", "java/lang/IllegalStateException", "java/lang/IllegalArgumentException", "java/lang/UnsupportedOperationException"] (m_im M (nI u0) p1 p2)) 4 24) 5 [(0, .ref (z 6 0)), (1, .int (nI u0)), (2, .int p1), (3, .int p2)] [.ref (z 0 u0)]
  have q8u0 : u0 < 8 := by omega
  have hEu0 := (hR.1.2.2.1 u0 q8u0).1; have oeu0 := (hR.1.2.2.1 u0 q8u0).2.1; have eou0 := hR.1.2.2.2 u0 q8u0; have ltu0 : (ma_t M u0).length ≤ 10 := hEu0.2.2.2.1
  refine jv_iload_n (q := 6) G 2 dX7_implement_5 rfl rfl rfl ?_
  refine jv_callS (q := 9) (As := [.ref (z 0 u0), .int p1]) (rest := []) G Z ml_X7_97 (k_typeOf hlt hEu0) dX7_implement_6 rfl (by decide) (by decide) (by decide) (by decide) (Nat.le_of_ble_eq_true rfl) rfl rfl (fun v5 h4 y6 => ?_) (fun cx hx yx => jv_out G ht (Nat.le_of_ble_eq_true rfl) (Nat.le_of_ble_eq_true rfl) (by obtain ⟨y1, y2, rfl⟩ := yx; exact pX_o (o' := (3, 0, M)) (opT_n zu0 hsu0 y1) ⟨(show ¬ (3 : Nat) = 0 by decide), y2, ⟨_, _, hR⟩, .rf⟩))
  obtain ⟨i0, hi0, rfl, rfl⟩ := y6
  show jv_V E 5 h (0 + 2 + 1) (0 + 12 + 6) (jv_Q E (pC z tO h (m_im M (nI u0) p1 p2)) (pX z tO h ["java/lang/IndexOutOfBoundsException", "java/lang/IllegalStateException", "java/lang/IllegalArgumentException", "java/lang/UnsupportedOperationException"] (m_im M (nI u0) p1 p2)) 4 24) 9 [(0, .ref (z 6 0)), (1, .int (nI u0)), (2, .int p1), (3, .int p2)] [.ref (T (10 * u0 + i0))]
  obtain ⟨t0, ht0, nt0⟩ := m_at_get hi0
  have lt0 := jv_ltGet ht0
  have k10t0 : i0 < 10 := by have := hEu0.2.2.2.1; omega
  have Ot0 := (hEu0.2.2.2.2.1 i0 t0 ht0).2
  have Vt0 := (hEu0.2.2.2.2.1 i0 t0 ht0).1
  have Yt0 := hEu0.2.1 i0 k10t0
  have bt0n := Ot0.1; have bt0k := Ot0.2.1
  have e0 := eou0.2.1 t0 (List.mem_of_getElem? ht0); have f3 := Ot0.2.2.2.1; have m6 := Ot0.2.2.2.2.2.1; have oT := oeu0.2.2.2.1 i0 k10t0
  refine jv_astore (q := 11) (lo' := [(4, .ref (T (10 * u0 + i0))), (0, .ref (z 6 0)), (1, .int (nI u0)), (2, .int p1), (3, .int p2)]) G dX7_implement_9 (by decide) rfl rfl ?_
  refine jv_iload_n (q := 12) G 4 dX7_implement_11 rfl rfl rfl ?_
  refine jv_callS_I (q := 15) (h1 := h) (As := [.int p2]) (rest := []) (ce' := 0 + 2 + 1) (sl' := 0 + 12 + 6) (r := jv_bI (rr_lt p2 16)) G Z ml_X7_62 (k_isName hlt) dX7_implement_12 rfl (by decide) (by decide) (by decide) (by decide) (Nat.le_of_ble_eq_true rfl) rfl rfl rfl rfl ?_
  refine jv_if_eqB (q := 18) (tgt := 27) G dX7_implement_15 (by decide) rfl (fun c7 => ?_) (fun c7 => ?_)
  · refine jv_throwS (text := "no such name, or it has it already") G Z ht th_70 (by decide) (by decide) dX7_implement_27 dX7_implement_30 dX7_implement_31 dX7_implement_33 dX7_implement_36 (Nat.le_of_ble_eq_true rfl) (by decide) (by decide) ?_
    exact pX_o (o' := (3, 0, M)) ((opT_0 zu0 hsu0 hi0 ht0).trans (if_neg (by rw [im_g]; simp [c7]))) ⟨(show ¬ (3 : Nat) = 0 by decide), rfl, ⟨_, _, hR⟩, .rf⟩
  · refine jv_aload (q := 20) G 0 dX7_implement_18 rfl rfl ?_
    refine jv_iload_n (q := 21) G 4 dX7_implement_20 rfl rfl rfl ?_
    refine jv_callV_I (q := 24) (h1 := h) (As := [.int p2]) (rest := []) (ce' := 0 + 2 + 1) (sl' := 0 + 12 + 6) (r := jv_bI (m_fi t0 p2)) G Z ml_X7_101 (k_leansOn hlt Yt0 Vt0 Ot0) (hEu0.2.1 i0 k10t0).1 dX7_implement_21 rfl (by decide) (by decide) (by decide) (by decide) (Nat.le_of_ble_eq_true rfl) rfl rfl rfl rfl ?_
    refine jv_if_eqB (q := 27) (tgt := 37) G dX7_implement_24 (by decide) rfl (fun c8 => ?_) (fun c8 => ?_)
    · refine jv_aload (q := 39) G 0 dX7_implement_37 rfl rfl ?_
      refine jv_getI (q := 42) G dX7_implement_39 fl_X7_108 rfl (hEu0.2.1 i0 k10t0).1 (ct_7 (hEu0.2.2.2.2.1 i0 t0 ht0).1) rfl ?_
      refine jv_iconst (q := 43) (v := nI 3) G dX7_implement_42 (by decide) rfl ?_
      refine jv_icmp_ltN (q := 46) (tgt := 56) G dX7_implement_43 (by decide) rfl (by omega) (by omega) (fun c9 => ?_) (fun c9 => ?_)
      · refine jv_aload (q := 58) G 0 dX7_implement_56 rfl rfl ?_
        refine jv_iload_n (q := 59) G 4 dX7_implement_58 rfl rfl rfl ?_
        obtain ⟨v1, v2⟩ := rr_cl (by decide) c7
        refine jv_callV (q := 62) (As := [.int p2]) (rest := []) G Z ml_X7_113 (k_addInterface hlt Yt0 Vt0 Ot0 (by omega) v1) (hEu0.2.1 i0 k10t0).1 dX7_implement_59 rfl (by decide) (by decide) (by decide) (by decide) (Nat.le_of_ble_eq_true rfl) rfl rfl (fun v11 h10 y12 => ?_) (fun _ _ hx => hx.elim)
        obtain ⟨rfl, hF9, hV9⟩ := y12
        show jv_V E 5 h10 (0 + 2 + 1) (0 + 12 + 6) (jv_Q E (pC z tO h (m_im M (nI u0) p1 p2)) (pX z tO h ["java/lang/IndexOutOfBoundsException", "java/lang/IllegalStateException", "java/lang/IllegalArgumentException", "java/lang/UnsupportedOperationException"] (m_im M (nI u0) p1 p2)) 4 24) 62 [(4, .ref (T (10 * u0 + i0))), (0, .ref (z 6 0)), (1, .int (nI u0)), (2, .int p1), (3, .int p2)] []
        refine jv_aload (q := 64) G 0 dX7_implement_62 rfl rfl ?_
        refine jv_getI (q := 67) G dX7_implement_64 fl_X7_108 rfl ((congrFun hF9.1 _).trans Yt0.1) (ct_7 hV9) rfl ?_
        refine jv_iret G hr dX7_implement_67 (Nat.le_of_ble_eq_true rfl) (Nat.le_of_ble_eq_true rfl) ?_
        obtain ⟨hRn, sfn⟩ := hR.ty (N' := N) (t' := m_tF t0 (mt_f t0 ++ [p2.toNatClampNeg])) hu0 hsu0 ht0 rfl (tF_ok Ot0 (by omega) v2) hF9.G (fun b q => by rcases q with q | q; exact q ▸ oT.1; exact q ▸ oT.2.1) (fun _ _ _ => rfl) oT (hF9.t Yt0) hV9 (im_eo e0)
        refine pC_o (o' := (0, nI ((mt_f t0).length + 1), m_put M u0 (false, (ma_t M u0).set i0 (m_tF t0 (mt_f t0 ++ [p2.toNatClampNeg]))))) ((opT_0 zu0 hsu0 hi0 ht0).trans ((if_pos (by rw [im_g]; simp [c7, c8])).trans (if_neg (by omega)))) ⟨rfl, ?_, ⟨_, _, hRn⟩, sfn⟩
        have el : (mt_f (m_tF t0 (mt_f t0 ++ [p2.toNatClampNeg]))).length = (mt_f t0).length + 1 := by show (mt_f t0 ++ [p2.toNatClampNeg]).length = _; rw [List.length_append, List.length_singleton]
        rw [el]
      · refine jv_throwS (text := "the type has all its interfaces") G Z ht th_88 (by decide) (by decide) dX7_implement_46 dX7_implement_49 dX7_implement_50 dX7_implement_52 dX7_implement_55 (Nat.le_of_ble_eq_true rfl) (by decide) (by decide) ?_
        exact pX_o (o' := (4, 0, M)) ((opT_0 zu0 hsu0 hi0 ht0).trans ((if_pos (by rw [im_g]; simp [c7, c8])).trans (if_pos (by omega)))) ⟨(show ¬ (4 : Nat) = 0 by decide), rfl, ⟨_, _, hR⟩, .rf⟩
    · refine jv_throwS (text := "no such name, or it has it already") G Z ht th_70 (by decide) (by decide) dX7_implement_27 dX7_implement_30 dX7_implement_31 dX7_implement_33 dX7_implement_36 (Nat.le_of_ble_eq_true rfl) (by decide) (by decide) ?_
      exact pX_o (o' := (3, 0, M)) ((opT_0 zu0 hsu0 hi0 ht0).trans (if_neg (by rw [im_g]; simp [c7, c8]))) ⟨(show ¬ (3 : Nat) = 0 by decide), rfl, ⟨_, _, hR⟩, .rf⟩
/-- what a member may be, by the class -/
def c_cb (i : Bool) (w a : Int32) (st : Bool) (b : Int32) : Bool := rr_lt w 3 && rr_lt a 4 && !(i && (!decide (a = nI 3) || (!decide (w = nI 1) && !st))) && !(decide (w = nI 2) && !st) && (if (decide (w = nI 1) && decide (b = -1)) = true then !st && !decide (a = 0) else rr_lt b 10)
theorem ac_0 {a : Int32} (h : rr_lt a 4 = true) : decide (a ≤ 0) = decide (a = 0) := by
  obtain ⟨k, hk, e, -⟩ := rr_lt_t (by decide) h
  rw [decide_eq_decide, e]
  have h0 : (0 : Int32) = nI 0 := rfl
  rw [h0, Int32.le_iff_toInt_le, nI_toInt (by omega), nI_toInt (by omega), nI_eq (by omega) (by omega)]
  omega
theorem mbG_eq {t : mT} (ho : mt_ok t) {w n s a b : Int32} {st : Bool} : m_mbG t w n s a st b = (rr_lt n 16 && rr_lt s 4 && c_cb (mt_i t) w a st b && (m_oc t (decide (w = nI 1)) (ky n s)).isNone) := by
  unfold m_mbG c_cb
  rw [rr_in0 (by decide), rr_in0 (by decide), rr_in0 (by decide), rr_in0 (by decide)]
  cases ha : rr_lt a 4 with
  | false => simp
  | true =>
    rw [ac_0 ha]
    by_cases hw : w = nI 1
    · subst hw
      have e1 : decide (nI 1 = nI 2) = false := by decide
      have e2 : decide (nI 1 = nI 1) = true := by decide
      rw [if_pos rfl, if_pos rfl, own_1 ho, rr_in1 (by decide), e1, e2]
      generalize (m_oc t true (ky n s)).isNone = x1
      generalize rr_lt n 16 = x2
      generalize rr_lt s 4 = x3
      generalize decide (b = -1) = x4
      generalize rr_lt b (9 + 1) = x5
      generalize decide (a = 0) = x6
      generalize decide (a = nI 3) = x7
      generalize mt_i t = x8
      generalize rr_lt (nI 1) (2 + 1) = x9
      cases x1 <;> cases x2 <;> cases x3 <;> cases x4 <;> cases x5 <;> cases x6 <;> cases x7 <;> cases x8 <;> cases x9 <;> cases st <;> rfl
    · rw [if_neg hw, if_neg hw, own_0 ho, decide_eq_false hw, rr_in0 (by decide)]
      generalize (m_oc t false (ky n s)).isNone = x1
      generalize rr_lt n 16 = x2
      generalize rr_lt s 4 = x3
      generalize decide (b = -1) = x4
      generalize rr_lt b (9 + 1) = x5
      generalize decide (a = 0) = x6
      generalize decide (a = nI 3) = x7
      generalize mt_i t = x8
      generalize rr_lt w (2 + 1) = x9
      generalize decide (w = nI 2) = x10
      cases x1 <;> cases x2 <;> cases x3 <;> cases x5 <;> cases x7 <;> cases x8 <;> cases x9 <;> cases x10 <;> cases st <;> rfl
set_option maxHeartbeats 4000000 in
set_option maxRecDepth 100000 in
theorem k_canBe {lA : Launch} (hlt : lA.stackTraces = false) {D : jv_D} {base : Nat} {z : Nat → Nat → Nat} {N : Nat → Nat → Nat} {h : jv_H} {a : Nat} {t : mT} (tl : cl_t z N h a) (hv : cv_T z N h a t) (ho : mt_ok t) {p0 p1 p3 : Int32} {p2 : Bool} : jv_Met lA D base yX7_canBe (.code yX7_canBe cX7_canBe 5 (some .boolean)) 2 0 0 [.ref a, .int p0, .int p1, .int (jv_bI p2), .int p3] h (jv_rI (jv_bI (c_cb (mt_i t) p0 p1 p2 p3)) h) jv_no := by
  refine jv_ofV (lo := [(0, .ref a), (1, .int p0), (2, .int p1), (3, .int (jv_bI p2)), (4, .int p3)]) hlt (by decide) (Nat.le_of_ble_eq_true rfl) rfl (fun E hEl hEd hEz Z G hr ht hnm => ?_)
  subst hEl; subst hEd; subst hEz
  refine jv_iload_n (q := 1) G 1 dX7_canBe_0 rfl rfl rfl ?_
  refine jv_iconst (q := 2) (v := nI 3) G dX7_canBe_1 (by decide) rfl ?_
  refine jv_callS_I (q := 5) (h1 := h) (As := [.int p0, .int (nI 3)]) (rest := []) (ce' := 0) (sl' := 0) (r := jv_bI (rr_lt p0 3)) G Z ml_X7_66 (k_isBelow hlt) dX7_canBe_2 rfl (by decide) (by decide) (by decide) (by decide) (Nat.le_of_ble_eq_true rfl) rfl rfl rfl rfl ?_
  refine jv_if_eqB (q := 8) (tgt := 16) G dX7_canBe_5 (by decide) rfl (fun c1 => ?_) (fun c1 => ?_)
  · refine jv_iconst (q := 17) (v := nI 0) G dX7_canBe_16 (by decide) rfl ?_
    refine jv_topI (y := jv_bI false) rfl ?_
    refine jv_zret G hr dX7_canBe_17 (Nat.le_of_ble_eq_true rfl) (Nat.le_of_ble_eq_true rfl) ?_
    have ec : c_cb (mt_i t) p0 p1 p2 p3 = false := by unfold c_cb; simp [c1]
    rw [ec]; exact ⟨rfl, rfl⟩
  · refine jv_iload_n (q := 9) G 2 dX7_canBe_8 rfl rfl rfl ?_
    refine jv_iconst (q := 10) (v := nI 4) G dX7_canBe_9 (by decide) rfl ?_
    refine jv_callS_I (q := 13) (h1 := h) (As := [.int p1, .int (nI 4)]) (rest := []) (ce' := 0) (sl' := 0) (r := jv_bI (rr_lt p1 4)) G Z ml_X7_66 (k_isBelow hlt) dX7_canBe_10 rfl (by decide) (by decide) (by decide) (by decide) (Nat.le_of_ble_eq_true rfl) rfl rfl rfl rfl ?_
    refine jv_if_neB (q := 16) (tgt := 18) G dX7_canBe_13 (by decide) rfl (fun c2 => ?_) (fun c2 => ?_)
    · refine jv_aload_n (q := 19) G 0 dX7_canBe_18 rfl rfl rfl ?_
      refine jv_getZ (q := 22) G dX7_canBe_19 fl_X7_301 rfl tl.1 (ct_1 hv) rfl ?_
      refine jv_if_eqB (q := 25) (tgt := 41) G dX7_canBe_22 (by decide) rfl (fun c3 => ?_) (fun c3 => ?_)
      · refine jv_iload_n (q := 42) G 1 dX7_canBe_41 rfl rfl rfl ?_
        refine jv_iconst (q := 43) (v := nI 2) G dX7_canBe_42 (by decide) rfl ?_
        refine jv_icmp_ne (q := 46) (tgt := 52) G dX7_canBe_43 (by decide) rfl (fun c4 => ?_) (fun c4 => ?_)
        · have d5 := decide_eq_false c4
          refine jv_iload_n (q := 53) G 1 dX7_canBe_52 rfl rfl rfl ?_
          refine jv_iconst (q := 54) (v := nI 1) G dX7_canBe_53 (by decide) rfl ?_
          refine jv_icmp_ne (q := 57) (tgt := 77) G dX7_canBe_54 (by decide) rfl (fun c6 => ?_) (fun c6 => ?_)
          · have d7 := decide_eq_false c6
            refine jv_iload (q := 79) G 4 dX7_canBe_77 rfl rfl ?_
            refine jv_bipush (q := 81) (v := nI 10) G dX7_canBe_79 (by decide) rfl ?_
            refine jv_callS_I (q := 84) (h1 := h) (As := [.int p3, .int (nI 10)]) (rest := []) (ce' := 0) (sl' := 0) (r := jv_bI (rr_lt p3 10)) G Z ml_X7_66 (k_isBelow hlt) dX7_canBe_81 rfl (by decide) (by decide) (by decide) (by decide) (Nat.le_of_ble_eq_true rfl) rfl rfl rfl rfl ?_
            refine jv_zret G hr dX7_canBe_84 (Nat.le_of_ble_eq_true rfl) (Nat.le_of_ble_eq_true rfl) ?_
            have ec : c_cb (mt_i t) p0 p1 p2 p3 = rr_lt p3 10 := by unfold c_cb; simp [c1, c2, c3, d5, d7]
            rw [ec]; exact ⟨rfl, rfl⟩
          · have d8 := decide_eq_true c6
            refine jv_iload (q := 59) G 4 dX7_canBe_57 rfl rfl ?_
            refine jv_iconst (q := 60) (v := (-1)) G dX7_canBe_59 (by decide) rfl ?_
            refine jv_icmp_ne (q := 63) (tgt := 77) G dX7_canBe_60 (by decide) rfl (fun c9 => ?_) (fun c9 => ?_)
            · have d10 := decide_eq_false c9
              refine jv_iload (q := 79) G 4 dX7_canBe_77 rfl rfl ?_
              refine jv_bipush (q := 81) (v := nI 10) G dX7_canBe_79 (by decide) rfl ?_
              refine jv_callS_I (q := 84) (h1 := h) (As := [.int p3, .int (nI 10)]) (rest := []) (ce' := 0) (sl' := 0) (r := jv_bI (rr_lt p3 10)) G Z ml_X7_66 (k_isBelow hlt) dX7_canBe_81 rfl (by decide) (by decide) (by decide) (by decide) (Nat.le_of_ble_eq_true rfl) rfl rfl rfl rfl ?_
              refine jv_zret G hr dX7_canBe_84 (Nat.le_of_ble_eq_true rfl) (Nat.le_of_ble_eq_true rfl) ?_
              have ec : c_cb (mt_i t) p0 p1 p2 p3 = rr_lt p3 10 := by unfold c_cb; simp [c1, c2, c3, d5, d8, d10]
              rw [ec]; exact ⟨rfl, rfl⟩
            · have d11 := decide_eq_true c9
              refine jv_iload_n (q := 64) G 3 dX7_canBe_63 rfl rfl rfl ?_
              refine jv_if_neB (q := 67) (tgt := 75) G dX7_canBe_64 (by decide) rfl (fun c12 => ?_) (fun c12 => ?_)
              · refine jv_iconst (q := 76) (v := nI 0) G dX7_canBe_75 (by decide) rfl ?_
                refine jv_topI (y := jv_bI false) rfl ?_
                refine jv_zret G hr dX7_canBe_76 (Nat.le_of_ble_eq_true rfl) (Nat.le_of_ble_eq_true rfl) ?_
                have ec : c_cb (mt_i t) p0 p1 p2 p3 = false := by unfold c_cb; simp [c1, c2, c3, d5, d8, d11, c12]
                rw [ec]; exact ⟨rfl, rfl⟩
              · refine jv_iload_n (q := 68) G 2 dX7_canBe_67 rfl rfl rfl ?_
                refine jv_if_eq (q := 71) (tgt := 75) G dX7_canBe_68 (by decide) rfl (fun c13 => ?_) (fun c13 => ?_)
                · have d14 := decide_eq_true c13
                  refine jv_iconst (q := 76) (v := nI 0) G dX7_canBe_75 (by decide) rfl ?_
                  refine jv_topI (y := jv_bI false) rfl ?_
                  refine jv_zret G hr dX7_canBe_76 (Nat.le_of_ble_eq_true rfl) (Nat.le_of_ble_eq_true rfl) ?_
                  have ec : c_cb (mt_i t) p0 p1 p2 p3 = false := by unfold c_cb; simp [c1, c2, c3, d5, d8, d11, c12, d14]
                  rw [ec]; exact ⟨rfl, rfl⟩
                · have d15 := decide_eq_false c13
                  refine jv_iconst (q := 72) (v := nI 1) G dX7_canBe_71 (by decide) rfl ?_
                  refine jv_goto (q := 76) G dX7_canBe_72 (by decide) ?_
                  refine jv_topI (y := jv_bI true) rfl ?_
                  refine jv_zret G hr dX7_canBe_76 (Nat.le_of_ble_eq_true rfl) (Nat.le_of_ble_eq_true rfl) ?_
                  have ec : c_cb (mt_i t) p0 p1 p2 p3 = true := by unfold c_cb; simp [c1, c2, c3, d5, d8, d11, c12, d15]
                  rw [ec]; exact ⟨rfl, rfl⟩
        · have d16 := decide_eq_true c4
          refine jv_iload_n (q := 47) G 3 dX7_canBe_46 rfl rfl rfl ?_
          refine jv_if_neB (q := 50) (tgt := 52) G dX7_canBe_47 (by decide) rfl (fun c17 => ?_) (fun c17 => ?_)
          · refine jv_iload_n (q := 53) G 1 dX7_canBe_52 rfl rfl rfl ?_
            refine jv_iconst (q := 54) (v := nI 1) G dX7_canBe_53 (by decide) rfl ?_
            refine jv_icmp_ne (q := 57) (tgt := 77) G dX7_canBe_54 (by decide) rfl (fun c18 => ?_) (fun c18 => ?_)
            · have d19 := decide_eq_false c18
              refine jv_iload (q := 79) G 4 dX7_canBe_77 rfl rfl ?_
              refine jv_bipush (q := 81) (v := nI 10) G dX7_canBe_79 (by decide) rfl ?_
              refine jv_callS_I (q := 84) (h1 := h) (As := [.int p3, .int (nI 10)]) (rest := []) (ce' := 0) (sl' := 0) (r := jv_bI (rr_lt p3 10)) G Z ml_X7_66 (k_isBelow hlt) dX7_canBe_81 rfl (by decide) (by decide) (by decide) (by decide) (Nat.le_of_ble_eq_true rfl) rfl rfl rfl rfl ?_
              refine jv_zret G hr dX7_canBe_84 (Nat.le_of_ble_eq_true rfl) (Nat.le_of_ble_eq_true rfl) ?_
              have ec : c_cb (mt_i t) p0 p1 p2 p3 = rr_lt p3 10 := by unfold c_cb; simp [c1, c2, c3, d16, c17, d19]
              rw [ec]; exact ⟨rfl, rfl⟩
            · have d20 := decide_eq_true c18
              refine jv_iload (q := 59) G 4 dX7_canBe_57 rfl rfl ?_
              refine jv_iconst (q := 60) (v := (-1)) G dX7_canBe_59 (by decide) rfl ?_
              refine jv_icmp_ne (q := 63) (tgt := 77) G dX7_canBe_60 (by decide) rfl (fun c21 => ?_) (fun c21 => ?_)
              · have d22 := decide_eq_false c21
                refine jv_iload (q := 79) G 4 dX7_canBe_77 rfl rfl ?_
                refine jv_bipush (q := 81) (v := nI 10) G dX7_canBe_79 (by decide) rfl ?_
                refine jv_callS_I (q := 84) (h1 := h) (As := [.int p3, .int (nI 10)]) (rest := []) (ce' := 0) (sl' := 0) (r := jv_bI (rr_lt p3 10)) G Z ml_X7_66 (k_isBelow hlt) dX7_canBe_81 rfl (by decide) (by decide) (by decide) (by decide) (Nat.le_of_ble_eq_true rfl) rfl rfl rfl rfl ?_
                refine jv_zret G hr dX7_canBe_84 (Nat.le_of_ble_eq_true rfl) (Nat.le_of_ble_eq_true rfl) ?_
                have ec : c_cb (mt_i t) p0 p1 p2 p3 = rr_lt p3 10 := by unfold c_cb; simp [c1, c2, c3, d16, c17, d20, d22]
                rw [ec]; exact ⟨rfl, rfl⟩
              · have d23 := decide_eq_true c21
                refine jv_iload_n (q := 64) G 3 dX7_canBe_63 rfl rfl rfl ?_
                refine jv_if_neB (q := 67) (tgt := 75) G dX7_canBe_64 (by decide) rfl (fun c24 => ?_) (fun c24 => ?_)
                · refine jv_iconst (q := 76) (v := nI 0) G dX7_canBe_75 (by decide) rfl ?_
                  refine jv_topI (y := jv_bI false) rfl ?_
                  refine jv_zret G hr dX7_canBe_76 (Nat.le_of_ble_eq_true rfl) (Nat.le_of_ble_eq_true rfl) ?_
                  have ec : c_cb (mt_i t) p0 p1 p2 p3 = false := by unfold c_cb; simp [c1, c2, c3, d16, c17, d20, d23, c24]
                  rw [ec]; exact ⟨rfl, rfl⟩
                · exact absurd (c24.symm.trans c17) (by decide)
          · refine jv_iconst (q := 51) (v := nI 0) G dX7_canBe_50 (by decide) rfl ?_
            refine jv_topI (y := jv_bI false) rfl ?_
            refine jv_zret G hr dX7_canBe_51 (Nat.le_of_ble_eq_true rfl) (Nat.le_of_ble_eq_true rfl) ?_
            have ec : c_cb (mt_i t) p0 p1 p2 p3 = false := by unfold c_cb; simp [c1, c2, c3, d16, c17]
            rw [ec]; exact ⟨rfl, rfl⟩
      · refine jv_iload_n (q := 26) G 2 dX7_canBe_25 rfl rfl rfl ?_
        refine jv_iconst (q := 27) (v := nI 3) G dX7_canBe_26 (by decide) rfl ?_
        refine jv_icmp_ne (q := 30) (tgt := 39) G dX7_canBe_27 (by decide) rfl (fun c25 => ?_) (fun c25 => ?_)
        · have d26 := decide_eq_false c25
          refine jv_iconst (q := 40) (v := nI 0) G dX7_canBe_39 (by decide) rfl ?_
          refine jv_topI (y := jv_bI false) rfl ?_
          refine jv_zret G hr dX7_canBe_40 (Nat.le_of_ble_eq_true rfl) (Nat.le_of_ble_eq_true rfl) ?_
          have ec : c_cb (mt_i t) p0 p1 p2 p3 = false := by unfold c_cb; simp [c1, c2, c3, d26]
          rw [ec]; exact ⟨rfl, rfl⟩
        · have d27 := decide_eq_true c25
          refine jv_iload_n (q := 31) G 1 dX7_canBe_30 rfl rfl rfl ?_
          refine jv_iconst (q := 32) (v := nI 1) G dX7_canBe_31 (by decide) rfl ?_
          refine jv_icmp_eq (q := 35) (tgt := 41) G dX7_canBe_32 (by decide) rfl (fun c28 => ?_) (fun c28 => ?_)
          · have d29 := decide_eq_true c28
            refine jv_iload_n (q := 42) G 1 dX7_canBe_41 rfl rfl rfl ?_
            refine jv_iconst (q := 43) (v := nI 2) G dX7_canBe_42 (by decide) rfl ?_
            refine jv_icmp_ne (q := 46) (tgt := 52) G dX7_canBe_43 (by decide) rfl (fun c30 => ?_) (fun c30 => ?_)
            · have d31 := decide_eq_false c30
              refine jv_iload_n (q := 53) G 1 dX7_canBe_52 rfl rfl rfl ?_
              refine jv_iconst (q := 54) (v := nI 1) G dX7_canBe_53 (by decide) rfl ?_
              refine jv_icmp_ne (q := 57) (tgt := 77) G dX7_canBe_54 (by decide) rfl (fun c32 => ?_) (fun c32 => ?_)
              · exact absurd c28 c32
              · have d33 := decide_eq_true c32
                refine jv_iload (q := 59) G 4 dX7_canBe_57 rfl rfl ?_
                refine jv_iconst (q := 60) (v := (-1)) G dX7_canBe_59 (by decide) rfl ?_
                refine jv_icmp_ne (q := 63) (tgt := 77) G dX7_canBe_60 (by decide) rfl (fun c34 => ?_) (fun c34 => ?_)
                · have d35 := decide_eq_false c34
                  refine jv_iload (q := 79) G 4 dX7_canBe_77 rfl rfl ?_
                  refine jv_bipush (q := 81) (v := nI 10) G dX7_canBe_79 (by decide) rfl ?_
                  refine jv_callS_I (q := 84) (h1 := h) (As := [.int p3, .int (nI 10)]) (rest := []) (ce' := 0) (sl' := 0) (r := jv_bI (rr_lt p3 10)) G Z ml_X7_66 (k_isBelow hlt) dX7_canBe_81 rfl (by decide) (by decide) (by decide) (by decide) (Nat.le_of_ble_eq_true rfl) rfl rfl rfl rfl ?_
                  refine jv_zret G hr dX7_canBe_84 (Nat.le_of_ble_eq_true rfl) (Nat.le_of_ble_eq_true rfl) ?_
                  have ec : c_cb (mt_i t) p0 p1 p2 p3 = rr_lt p3 10 := by unfold c_cb; simp [c1, c2, c3, d27, d29, d31, d33, d35]
                  rw [ec]; exact ⟨rfl, rfl⟩
                · have d36 := decide_eq_true c34
                  refine jv_iload_n (q := 64) G 3 dX7_canBe_63 rfl rfl rfl ?_
                  refine jv_if_neB (q := 67) (tgt := 75) G dX7_canBe_64 (by decide) rfl (fun c37 => ?_) (fun c37 => ?_)
                  · refine jv_iconst (q := 76) (v := nI 0) G dX7_canBe_75 (by decide) rfl ?_
                    refine jv_topI (y := jv_bI false) rfl ?_
                    refine jv_zret G hr dX7_canBe_76 (Nat.le_of_ble_eq_true rfl) (Nat.le_of_ble_eq_true rfl) ?_
                    have ec : c_cb (mt_i t) p0 p1 p2 p3 = false := by unfold c_cb; simp [c1, c2, c3, d27, d29, d31, d33, d36, c37]
                    rw [ec]; exact ⟨rfl, rfl⟩
                  · refine jv_iload_n (q := 68) G 2 dX7_canBe_67 rfl rfl rfl ?_
                    refine jv_if_eq (q := 71) (tgt := 75) G dX7_canBe_68 (by decide) rfl (fun c38 => ?_) (fun c38 => ?_)
                    · have d39 := decide_eq_true c38
                      refine jv_iconst (q := 76) (v := nI 0) G dX7_canBe_75 (by decide) rfl ?_
                      refine jv_topI (y := jv_bI false) rfl ?_
                      refine jv_zret G hr dX7_canBe_76 (Nat.le_of_ble_eq_true rfl) (Nat.le_of_ble_eq_true rfl) ?_
                      have ec : c_cb (mt_i t) p0 p1 p2 p3 = false := by unfold c_cb; simp [c1, c2, c3, d27, d29, d31, d33, d36, c37, d39]
                      rw [ec]; exact ⟨rfl, rfl⟩
                    · have d40 := decide_eq_false c38
                      refine jv_iconst (q := 72) (v := nI 1) G dX7_canBe_71 (by decide) rfl ?_
                      refine jv_goto (q := 76) G dX7_canBe_72 (by decide) ?_
                      refine jv_topI (y := jv_bI true) rfl ?_
                      refine jv_zret G hr dX7_canBe_76 (Nat.le_of_ble_eq_true rfl) (Nat.le_of_ble_eq_true rfl) ?_
                      have ec : c_cb (mt_i t) p0 p1 p2 p3 = true := by unfold c_cb; simp [c1, c2, c3, d27, d29, d31, d33, d36, c37, d40]
                      rw [ec]; exact ⟨rfl, rfl⟩
            · have d41 := decide_eq_true c30
              refine jv_iload_n (q := 47) G 3 dX7_canBe_46 rfl rfl rfl ?_
              refine jv_if_neB (q := 50) (tgt := 52) G dX7_canBe_47 (by decide) rfl (fun c42 => ?_) (fun c42 => ?_)
              · refine jv_iload_n (q := 53) G 1 dX7_canBe_52 rfl rfl rfl ?_
                refine jv_iconst (q := 54) (v := nI 1) G dX7_canBe_53 (by decide) rfl ?_
                refine jv_icmp_ne (q := 57) (tgt := 77) G dX7_canBe_54 (by decide) rfl (fun c43 => ?_) (fun c43 => ?_)
                · exact absurd c28 c43
                · have d44 := decide_eq_true c43
                  refine jv_iload (q := 59) G 4 dX7_canBe_57 rfl rfl ?_
                  refine jv_iconst (q := 60) (v := (-1)) G dX7_canBe_59 (by decide) rfl ?_
                  refine jv_icmp_ne (q := 63) (tgt := 77) G dX7_canBe_60 (by decide) rfl (fun c45 => ?_) (fun c45 => ?_)
                  · have d46 := decide_eq_false c45
                    refine jv_iload (q := 79) G 4 dX7_canBe_77 rfl rfl ?_
                    refine jv_bipush (q := 81) (v := nI 10) G dX7_canBe_79 (by decide) rfl ?_
                    refine jv_callS_I (q := 84) (h1 := h) (As := [.int p3, .int (nI 10)]) (rest := []) (ce' := 0) (sl' := 0) (r := jv_bI (rr_lt p3 10)) G Z ml_X7_66 (k_isBelow hlt) dX7_canBe_81 rfl (by decide) (by decide) (by decide) (by decide) (Nat.le_of_ble_eq_true rfl) rfl rfl rfl rfl ?_
                    refine jv_zret G hr dX7_canBe_84 (Nat.le_of_ble_eq_true rfl) (Nat.le_of_ble_eq_true rfl) ?_
                    have ec : c_cb (mt_i t) p0 p1 p2 p3 = rr_lt p3 10 := by unfold c_cb; simp [c1, c2, c3, d27, d29, d41, c42, d44, d46]
                    rw [ec]; exact ⟨rfl, rfl⟩
                  · have d47 := decide_eq_true c45
                    refine jv_iload_n (q := 64) G 3 dX7_canBe_63 rfl rfl rfl ?_
                    refine jv_if_neB (q := 67) (tgt := 75) G dX7_canBe_64 (by decide) rfl (fun c48 => ?_) (fun c48 => ?_)
                    · refine jv_iconst (q := 76) (v := nI 0) G dX7_canBe_75 (by decide) rfl ?_
                      refine jv_topI (y := jv_bI false) rfl ?_
                      refine jv_zret G hr dX7_canBe_76 (Nat.le_of_ble_eq_true rfl) (Nat.le_of_ble_eq_true rfl) ?_
                      have ec : c_cb (mt_i t) p0 p1 p2 p3 = false := by unfold c_cb; simp [c1, c2, c3, d27, d29, d41, c42, d44, d47, c48]
                      rw [ec]; exact ⟨rfl, rfl⟩
                    · exact absurd (c48.symm.trans c42) (by decide)
              · refine jv_iconst (q := 51) (v := nI 0) G dX7_canBe_50 (by decide) rfl ?_
                refine jv_topI (y := jv_bI false) rfl ?_
                refine jv_zret G hr dX7_canBe_51 (Nat.le_of_ble_eq_true rfl) (Nat.le_of_ble_eq_true rfl) ?_
                have ec : c_cb (mt_i t) p0 p1 p2 p3 = false := by unfold c_cb; simp [c1, c2, c3, d27, d29, d41, c42]
                rw [ec]; exact ⟨rfl, rfl⟩
          · have d49 := decide_eq_false c28
            refine jv_iload_n (q := 36) G 3 dX7_canBe_35 rfl rfl rfl ?_
            refine jv_if_neB (q := 39) (tgt := 41) G dX7_canBe_36 (by decide) rfl (fun c50 => ?_) (fun c50 => ?_)
            · refine jv_iload_n (q := 42) G 1 dX7_canBe_41 rfl rfl rfl ?_
              refine jv_iconst (q := 43) (v := nI 2) G dX7_canBe_42 (by decide) rfl ?_
              refine jv_icmp_ne (q := 46) (tgt := 52) G dX7_canBe_43 (by decide) rfl (fun c51 => ?_) (fun c51 => ?_)
              · have d52 := decide_eq_false c51
                refine jv_iload_n (q := 53) G 1 dX7_canBe_52 rfl rfl rfl ?_
                refine jv_iconst (q := 54) (v := nI 1) G dX7_canBe_53 (by decide) rfl ?_
                refine jv_icmp_ne (q := 57) (tgt := 77) G dX7_canBe_54 (by decide) rfl (fun c53 => ?_) (fun c53 => ?_)
                · have d54 := decide_eq_false c53
                  refine jv_iload (q := 79) G 4 dX7_canBe_77 rfl rfl ?_
                  refine jv_bipush (q := 81) (v := nI 10) G dX7_canBe_79 (by decide) rfl ?_
                  refine jv_callS_I (q := 84) (h1 := h) (As := [.int p3, .int (nI 10)]) (rest := []) (ce' := 0) (sl' := 0) (r := jv_bI (rr_lt p3 10)) G Z ml_X7_66 (k_isBelow hlt) dX7_canBe_81 rfl (by decide) (by decide) (by decide) (by decide) (Nat.le_of_ble_eq_true rfl) rfl rfl rfl rfl ?_
                  refine jv_zret G hr dX7_canBe_84 (Nat.le_of_ble_eq_true rfl) (Nat.le_of_ble_eq_true rfl) ?_
                  have ec : c_cb (mt_i t) p0 p1 p2 p3 = rr_lt p3 10 := by unfold c_cb; simp [c1, c2, c3, d27, d49, c50, d52, d54]
                  rw [ec]; exact ⟨rfl, rfl⟩
                · exact absurd c53 c28
              · have d55 := decide_eq_true c51
                refine jv_iload_n (q := 47) G 3 dX7_canBe_46 rfl rfl rfl ?_
                refine jv_if_neB (q := 50) (tgt := 52) G dX7_canBe_47 (by decide) rfl (fun c56 => ?_) (fun c56 => ?_)
                · refine jv_iload_n (q := 53) G 1 dX7_canBe_52 rfl rfl rfl ?_
                  refine jv_iconst (q := 54) (v := nI 1) G dX7_canBe_53 (by decide) rfl ?_
                  refine jv_icmp_ne (q := 57) (tgt := 77) G dX7_canBe_54 (by decide) rfl (fun c57 => ?_) (fun c57 => ?_)
                  · have d58 := decide_eq_false c57
                    refine jv_iload (q := 79) G 4 dX7_canBe_77 rfl rfl ?_
                    refine jv_bipush (q := 81) (v := nI 10) G dX7_canBe_79 (by decide) rfl ?_
                    refine jv_callS_I (q := 84) (h1 := h) (As := [.int p3, .int (nI 10)]) (rest := []) (ce' := 0) (sl' := 0) (r := jv_bI (rr_lt p3 10)) G Z ml_X7_66 (k_isBelow hlt) dX7_canBe_81 rfl (by decide) (by decide) (by decide) (by decide) (Nat.le_of_ble_eq_true rfl) rfl rfl rfl rfl ?_
                    refine jv_zret G hr dX7_canBe_84 (Nat.le_of_ble_eq_true rfl) (Nat.le_of_ble_eq_true rfl) ?_
                    have ec : c_cb (mt_i t) p0 p1 p2 p3 = rr_lt p3 10 := by unfold c_cb; simp [c1, c2, c3, d27, d49, c50, d55, c56, d58]
                    rw [ec]; exact ⟨rfl, rfl⟩
                  · exact absurd c57 c28
                · exact absurd (c56.symm.trans c50) (by decide)
            · refine jv_iconst (q := 40) (v := nI 0) G dX7_canBe_39 (by decide) rfl ?_
              refine jv_topI (y := jv_bI false) rfl ?_
              refine jv_zret G hr dX7_canBe_40 (Nat.le_of_ble_eq_true rfl) (Nat.le_of_ble_eq_true rfl) ?_
              have ec : c_cb (mt_i t) p0 p1 p2 p3 = false := by unfold c_cb; simp [c1, c2, c3, d27, d49, c50]
              rw [ec]; exact ⟨rfl, rfl⟩
    · refine jv_iconst (q := 17) (v := nI 0) G dX7_canBe_16 (by decide) rfl ?_
      refine jv_topI (y := jv_bI false) rfl ?_
      refine jv_zret G hr dX7_canBe_17 (Nat.le_of_ble_eq_true rfl) (Nat.le_of_ble_eq_true rfl) ?_
      have ec : c_cb (mt_i t) p0 p1 p2 p3 = false := by unfold c_cb; simp [c1, c2]
      rw [ec]; exact ⟨rfl, rfl⟩
