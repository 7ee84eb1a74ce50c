section CA
variable {z : Nat → Nat → Nat} {T : Nat → Nat} {N N' : Nat → Nat → Nat} {tO : Nat → Nat} {h h1 : jv_H} {M : mA}
def caS (z : Nat → Nat → Nat) (k : Nat) (b : Nat) : Prop := b = z 6 0 ∨ b = z 3 k ∨ ∃ j, j < 20 ∧ b = z 5 (20 * k + j)
/-- one caller anew, or one more -/
theorem cl_R.cal (hR : cl_R z T N tO h M) {k : Nat} {M2 : List mC} (hk : k < 12) (f : cF (caS z k) h h1) (h1' : jv_I h1 (z 6 0) 1 = jv_I h (z 6 0) 1) (h3 : jv_I h1 (z 6 0) 3 = nI M2.length) (hl : M2.length ≤ 12) (hsame : ∀ c, c ≠ k → M2[c]? = M.2[c]?) (hnew : ∀ C, M2[k]? = some C → cl_C z h1 M k C ∧ mc_ok M C) : cl_R z T N tO h1 (M.1, M2) ∧ sF cs h h1 := by
  obtain ⟨⟨a, nn, ee, eoo⟩, ⟨c, cc⟩, k0, fi, p, d⟩ := hR
  have s5 := d.2.2.2.2.1
  have g : sF (fun s => us s || decide (s = .inl 7)) h h1 := f.G.sF (fun b s hs q => by
    rcases q with q | q | ⟨j, hj, q⟩
    · rw [q, a.1] at hs; cases hs; rfl
    · rw [q, (c k hk).1] at hs; cases hs; rfl
    · rw [q, s5 _ (by omega)] at hs; cases hs; rfl)
  have ne : ∀ s, es s = true → (fun s => us s || decide (s = .inl 7)) s = false := fun s q => by
    unfold es at q
    unfold us
    split at q
    · simp at q
      rcases q with (q | q) | q <;> subst q <;> rfl
    · rfl
    · rfl
    · cases q
  have nk : ∀ s, ks s = true → (fun s => us s || decide (s = .inl 7)) s = false := fun s q => by
    unfold ks at q
    unfold us
    split at q
    · simp at q
      subst q; rfl
    · rfl
    · rfl
    · rfl
    · cases q
  refine ⟨⟨⟨?_, ⟨h1'.trans nn.1, nn.2.1, h3, hl⟩, fun x hx => g.clE ne (ee x hx), eoo⟩, ⟨fun x hx => ⟨(g.sh _).trans (c x hx).1, (f.p _ _).trans (c x hx).2.1, (g.sh _).trans (c x hx).2.2.1, fun j hj => (f.p _ _).trans ((c x hx).2.2.2 j hj)⟩, fun x C hC => ?_⟩, g.clK nk k0, g.clF rfl a fi, g.clp rfl p, g.clD d⟩, g.mono (fun s q => ?_)⟩
  · obtain ⟨r1, r2, r3, r4, r5, r6, r7, r8, r9, r10, r11⟩ := a
    exact ⟨(g.sh _).trans r1, (f.p _ _).trans r2, (g.sh _).trans r3, (f.p _ _).trans r4, (g.sh _).trans r5, (f.p _ _).trans r6, (f.p _ _).trans r7, (f.p _ _).trans r8, (g.sh _).trans r9, fun e he => (f.p _ _).trans (r10 e he), fun c hc => (f.p _ _).trans (r11 c hc)⟩
  · have hC : M2[x]? = some C := hC
    by_cases q : x = k
    · subst q
      exact hnew C hC
    · have hx : x < 12 := by have := jv_ltGet hC; omega
      rw [hsame x q] at hC
      obtain ⟨⟨⟨c1, c2, c3, c4⟩, c5, c6⟩, ok⟩ := cc x C hC
      have n3 : ¬ caS z k (z 3 x) := fun y => by
        rcases y with y | y | ⟨j, hj, y⟩
        · exact sh_no c1 a.1 (by intro q; cases q) y
        · exact q (d.2.2.1 _ _ (by omega) (by omega) y)
        · exact sh_no c1 (s5 _ (by omega)) (by intro q; cases q) y
      refine ⟨⟨⟨(g.sh _).trans c1, (f.i n3 0).trans c2, (f.i n3 1).trans c3, (f.i n3 2).trans c4⟩, (f.i n3 4).trans c5, fun j U hU => ?_⟩, ok⟩
      obtain ⟨⟨u1, u2, u3, u4, u5, u6, u7⟩, u8⟩ := c6 j U hU
      have hj : j < 20 := by have := jv_ltGet hU; have := ok.2.2.2.2.1; omega
      have n5 : ¬ caS z k (z 5 (20 * x + j)) := fun y => by
        rcases y with y | y | ⟨j', hj', y⟩
        · exact sh_no u1 a.1 (by intro q; cases q) y
        · exact sh_no u1 (c k hk).1 (by intro q; cases q) y
        · have := d.2.2.2.1 _ _ (by omega) (by omega) y; omega
      exact ⟨⟨(g.sh _).trans u1, (f.i n5 0).trans u2, (f.i n5 1).trans u3, (f.i n5 2).trans u4, (f.i n5 3).trans u5, (f.i n5 4).trans u6, (f.i n5 5).trans u7⟩, u8⟩
  · have q : (us s || decide (s = .inl 7)) = true := q
    rw [Bool.or_eq_true, decide_eq_true_iff] at q
    unfold cs
    rcases q with q | q
    · rw [q]; simp
    · rw [q]; rfl
theorem ca_1 {e p s : Int32} (h : m_ix1 M.1.length e = none) : m_ca M e p s = (1, 0, M) := by unfold m_ca m_cl; rw [h]
theorem ca_2 {e p s : Int32} {k : Nat} (h : m_ix1 M.1.length e = some k) (hs : ma_s M k = false) : m_ca M e p s = (2, 0, M) := by unfold m_ca m_cl; rw [h]; dsimp only; rw [hs]; rfl
theorem ca_3 {e p s : Int32} {k : Nat} (h : m_ix1 M.1.length e = some k) (hs : ma_s M k = true) (n : (rr_lt p 5 && m_caG (ma_t M k) s) = false) : m_ca M e p s = (3, 0, M) := by
  unfold m_ca
  rw [m_cl_yes h hs, rr_in0 (by decide), n]; rfl
theorem ca_4 {e p s : Int32} {k : Nat} (h : m_ix1 M.1.length e = some k) (hs : ma_s M k = true) (n : (rr_lt p 5 && m_caG (ma_t M k) s) = true) (hl : M.2.length = 12) : m_ca M e p s = (4, 0, M) := by
  unfold m_ca
  rw [m_cl_yes h hs, rr_in0 (by decide), n, if_pos rfl, if_pos hl]
theorem ca_0 {e p s : Int32} {k : Nat} (h : m_ix1 M.1.length e = some k) (hs : ma_s M k = true) (n : (rr_lt p 5 && m_caG (ma_t M k) s) = true) (hl : ¬ M.2.length = 12) : m_ca M e p s = (0, nI M.2.length, M.1, M.2 ++ [(k, p.toNatClampNeg, m_oI s, [])]) := by
  unfold m_ca
  rw [m_cl_yes h hs, rr_in0 (by decide), n, if_pos rfl, if_neg hl]
theorem caG_c {ts : List mT} {s : Int32} {k : Nat} (h : m_cn ts s false = some k) : m_caG ts s = true := by
  obtain ⟨h1, -⟩ := m_cn_at h
  obtain ⟨t, ht, -, hi⟩ := m_cn_get h
  unfold m_caG
  rw [h1]
  dsimp only
  rw [ht]
  show (decide (s = -1) || !mt_i t) = true
  rw [hi, Bool.not_false, Bool.or_true]
theorem caG_n {ts : List mT} {s : Int32} (n : ¬ s = -1) (h : m_cn ts s false = none) : m_caG ts s = false := by
  unfold m_caG
  rw [decide_eq_false n, Bool.false_or]
  cases ha : m_at ts s with
  | none => rfl
  | some i =>
    obtain ⟨t, ht, -⟩ := m_at_get ha
    dsimp only
    rw [ht]
    cases hi : mt_i t with
    | true => show (!mt_i t) = false; rw [hi]; rfl
    | false => rw [cn_f ha ht hi] at h; cases h
theorem caG_1 {ts : List mT} : m_caG ts (-1) = true := rfl
theorem cl_R.caN (hR : cl_R z T N tO h M) {ec p : Nat} {su : Option Nat} (hl : M.2.length < 12) (he : ec < M.1.length) (hs : ma_s M ec = true) (hp : p < 5) (hsu : ∀ u, su = some u → u < 16) {h0 : jv_H} (f : cF (fun b => b = z 3 M.2.length) h h0) (hc : cv_ca h0 (z 3 M.2.length) ec p su) (h4 : jv_I h0 (z 3 M.2.length) 4 = nI 0) {v : Int32} (ev : v = nI (M.2.length + 1)) : cl_R z T N tO (jv_wI h0 (z 6 0) 3 v) (M.1, M.2 ++ [(ec, p, su, [])]) ∧ sF cs h (jv_wI h0 (z 6 0) 3 v) := by
  subst ev
  have n6 : z 6 0 ≠ z 3 M.2.length := sh_no hR.1.1.1 (hR.2.1.1 _ hl).1 (by intro q; cases q)
  refine hR.cal (k := M.2.length) hl ((cF.mono (S' := caS z M.2.length) f (fun b q => Or.inr (Or.inl q))).wI (b := z 6 0) (Or.inl rfl) 3 _) ?_ ?_ ?_ (fun c hc => ?_) (fun C hC => ?_)
  · rw [oI_o, if_neg (by decide)]; exact f.i n6 1
  · rw [List.length_append, List.length_singleton]; exact jv_I_self _ _ _ _
  · rw [List.length_append, List.length_singleton]; omega
  · by_cases q : c < M.2.length
    · rw [List.getElem?_append_left q]
    · rw [List.getElem?_eq_none_iff.mpr (by rw [List.length_append, List.length_singleton]; omega), List.getElem?_eq_none_iff.mpr (by omega)]
  · rw [List.getElem?_append_right (Nat.le_refl _), Nat.sub_self] at hC
    cases hC
    obtain ⟨c1, c2, c3, c4⟩ := hc
    have w : ∀ j, jv_I (jv_wI h0 (z 6 0) 3 (nI (M.2.length + 1))) (z 3 M.2.length) j = jv_I h0 (z 3 M.2.length) j := fun j => wI_ne (Ne.symm n6)
    exact ⟨⟨⟨c1, (w 0).trans c2, (w 1).trans c3, (w 2).trans c4⟩, (w 4).trans h4, fun j U hU => by cases hU⟩, he, hs, hp, hsu, Nat.zero_le _, fun u hu => by cases hu⟩
end CA
set_option maxHeartbeats 4000000 in
set_option maxRecDepth 100000 in
theorem k_caller {lA : Launch} (hlt : lA.stackTraces = false) {D : jv_D} {base : Nat} {z : Nat → Nat → Nat} {T : Nat → Nat} {N : Nat → Nat → Nat} {tO : Nat → Nat} {h : jv_H} {M : mA} (hR : cl_R z T N tO h M) {p0 : Int32} {p1 : Int32} {p2 : Int32} : jv_Met lA D base yX7_caller (.code yX7_caller cX7_caller 5 (some .int)) 4 3 18 [.ref (z 6 0), .int p0, .int p1, .int p2] h (pC z tO h (m_ca M p0 p1 p2)) (pX z tO h ["java/lang/IndexOutOfBoundsException", "java/lang/IllegalStateException", "java/lang/IllegalArgumentException", "java/lang/UnsupportedOperationException"] (m_ca M p0 p1 p2)) := by
  refine jv_ofV (lo := [(0, .ref (z 6 0)), (1, .int p0), (2, .int p1), (3, .int p2)]) hlt (by decide) (Nat.le_of_ble_eq_true rfl) rfl (fun E hEl hEd hEz Z G hr ht hnm => ?_)
  subst hEl; subst hEd; subst hEz
  have hl8 := hR.1.2.1.2.1; have hl12 := hR.1.2.1.2.2.2
  refine jv_aload_n (q := 1) G 0 dX7_caller_0 rfl rfl rfl ?_
  refine jv_iload_n (q := 2) G 1 dX7_caller_1 rfl rfl rfl ?_
  refine jv_callV (q := 5) (As := [.int p0]) (rest := []) G Z ml_X7_51 (k_sealedEdition hlt hR) hR.1.1.1 dX7_caller_2 rfl (by decide) (by decide) (by decide) (by decide) (Nat.le_of_ble_eq_true rfl) rfl rfl (fun v2 h1 y3 => ?_) (fun cx hx yx => jv_out G ht (Nat.le_of_ble_eq_true rfl) (Nat.le_of_ble_eq_true rfl) (by obtain ⟨rfl, y1 | ⟨kq, y1, y2, y3⟩⟩ := yx; exact pX_o (o' := (1, 0, M)) (ca_1 y1.1) ⟨(show ¬ (1 : Nat) = 0 by decide), y1.2, ⟨_, _, hR⟩, .rf⟩; exact pX_o (o' := (2, 0, M)) (ca_2 y1 y2) ⟨(show ¬ (2 : Nat) = 0 by decide), y3, ⟨_, _, hR⟩, .rf⟩))
  obtain ⟨u0, hu0, rfl, zu0, hsu0, rfl, rfl⟩ := y3
  show jv_V E 5 h (0 + 2) (0 + 12) (jv_Q E (pC z tO h (m_ca M (nI u0) p1 p2)) (pX z tO h ["java/lang/IndexOutOfBoundsException", "java/lang/IllegalStateException", "java/lang/IllegalArgumentException", "java/lang/UnsupportedOperationException"] (m_ca M (nI u0) p1 p2)) 3 18) 5 [(0, .ref (z 6 0)), (1, .int (nI u0)), (2, .int p1), (3, .int p2)] [.ref (z 0 u0)]
  have q8u0 : u0 < 8 := by omega
  have hEu0 := (hR.1.2.2.1 u0 q8u0).1; have hUu0 := (hR.1.2.2.1 u0 q8u0).2.2.2 hsu0; have sou0 := (hR.1.2.2.2 u0 q8u0).2.2 hsu0
  refine jv_astore (q := 7) (lo' := [(4, .ref (z 0 u0)), (0, .ref (z 6 0)), (1, .int (nI u0)), (2, .int p1), (3, .int p2)]) G dX7_caller_5 (by decide) rfl rfl ?_
  refine jv_iload_n (q := 8) G 3 dX7_caller_7 rfl rfl rfl ?_
  refine jv_iconst (q := 9) (v := nI 5) G dX7_caller_8 (by decide) rfl ?_
  refine jv_callS_I (q := 12) (h1 := h) (As := [.int p1, .int (nI 5)]) (rest := []) (ce' := 0 + 2) (sl' := 0 + 12) (r := jv_bI (rr_lt p1 5)) G Z ml_X7_66 (k_isBelow hlt) dX7_caller_9 rfl (by decide) (by decide) (by decide) (by decide) (Nat.le_of_ble_eq_true rfl) rfl rfl rfl rfl ?_
  refine jv_if_neB (q := 15) (tgt := 25) G dX7_caller_12 (by decide) rfl (fun c4 => ?_) (fun c4 => ?_)
  · obtain ⟨n1, hn1, en1, zn1⟩ := rr_lt_t (by decide) c4
    subst en1
    refine jv_iload_n (q := 26) G 4 dX7_caller_25 rfl rfl rfl ?_
    refine jv_iconst (q := 27) (v := (-1)) G dX7_caller_26 (by decide) rfl ?_
    refine jv_icmp_eq (q := 30) (tgt := 49) G dX7_caller_27 (by decide) rfl (fun c5 => ?_) (fun c5 => ?_)
    · subst c5
      refine jv_aload_n (q := 50) G 1 dX7_caller_49 rfl rfl rfl ?_
      refine jv_getI (q := 53) G dX7_caller_50 fl_X7_181 rfl hR.1.1.1 hR.1.2.1.2.2.1 rfl ?_
      refine jv_bipush (q := 55) (v := nI 12) G dX7_caller_53 (by decide) rfl ?_
      refine jv_icmp_ltN (q := 58) (tgt := 68) G dX7_caller_55 (by decide) rfl (by omega) (by omega) (fun c6 => ?_) (fun c6 => ?_)
      · refine jv_aload_n (q := 69) G 1 dX7_caller_68 rfl rfl rfl ?_
        refine jv_getQ (q := 72) G dX7_caller_69 fl_X7_17 rfl hR.1.1.1 hR.1.1.2.2.2.1 rfl ?_
        refine jv_aload_n (q := 73) G 1 dX7_caller_72 rfl rfl rfl ?_
        refine jv_getI (q := 76) G dX7_caller_73 fl_X7_181 rfl hR.1.1.1 hR.1.2.1.2.2.1 rfl ?_
        refine jv_aaldQ (q := 77) G dX7_caller_76 hR.1.1.2.2.2.2.1 rfl (by omega) (by decide) (hR.1.1.2.2.2.2.2.2.2.2.2.2 M.2.length (by omega)) rfl ?_
        refine jv_iload_n (q := 78) G 2 dX7_caller_77 rfl rfl rfl ?_
        refine jv_iload_n (q := 79) G 3 dX7_caller_78 rfl rfl rfl ?_
        refine jv_iload_n (q := 80) G 4 dX7_caller_79 rfl rfl rfl ?_
        refine jv_callV (q := 83) (As := [.int (nI u0), .int (nI n1), .int (-1)]) (rest := []) G Z ml_X7_186 (k_cBegin (ec := u0) (p := n1) (su := none) hlt (hR.2.1.1 M.2.length (by omega)).1) (hR.2.1.1 M.2.length (by omega)).1 dX7_caller_80 rfl (by decide) (by decide) (by decide) (by decide) (Nat.le_of_ble_eq_true rfl) rfl rfl (fun v8 h7 y9 => ?_) (fun _ _ hx => hx.elim)
        obtain ⟨rfl, hF9, hc9, h49⟩ := y9
        show jv_V E 5 h7 (0 + 2) (0 + 12) (jv_Q E (pC z tO h (m_ca M (nI u0) (nI n1) (-1))) (pX z tO h ["java/lang/IndexOutOfBoundsException", "java/lang/IllegalStateException", "java/lang/IllegalArgumentException", "java/lang/UnsupportedOperationException"] (m_ca M (nI u0) (nI n1) (-1))) 3 18) 83 [(4, .ref (z 0 u0)), (0, .ref (z 6 0)), (1, .int (nI u0)), (2, .int (nI n1)), (3, .int (-1))] []
        have n6 : z 6 0 ≠ z 3 M.2.length := sh_no hR.1.1.1 (hR.2.1.1 _ (by omega)).1 (by intro q; cases q)
        refine jv_aload_n (q := 84) G 1 dX7_caller_83 rfl rfl rfl ?_
        refine jv_dup (q := 85) G dX7_caller_84 rfl rfl ?_
        refine jv_getI (q := 88) G dX7_caller_85 fl_X7_181 rfl ((congrFun hF9.1 _).trans hR.1.1.1) ((hF9.i n6 3).trans hR.1.2.1.2.2.1) rfl ?_
        refine jv_iconst (q := 89) (v := nI 1) G dX7_caller_88 (by decide) rfl ?_
        refine jv_iaddN (q := 90) G dX7_caller_89 rfl ?_
        refine jv_putI (q := 93) G dX7_caller_90 fl_X7_181 rfl ((congrFun hF9.1 _).trans hR.1.1.1) rfl ?_
        refine jv_aload_n (q := 94) G 1 dX7_caller_93 rfl rfl rfl ?_
        refine jv_getI (q := 97) G dX7_caller_94 fl_X7_181 rfl ((congrFun hF9.1 _).trans hR.1.1.1) (jv_I_self _ _ _ _) rfl ?_
        refine jv_iconst (q := 98) (v := nI 1) G dX7_caller_97 (by decide) rfl ?_
        refine jv_isubN (q := 99) G dX7_caller_98 (by omega) rfl ?_
        refine jv_iret G hr dX7_caller_99 (Nat.le_of_ble_eq_true rfl) (Nat.le_of_ble_eq_true rfl) ?_
        obtain ⟨hRn, sfn⟩ := hR.caN (ec := u0) (p := n1) (su := none) (by omega) hu0 hsu0 hn1 (fun u q => by cases q) hF9 hc9 h49 rfl
        have eo9 : m_oI (-1) = none := rfl
        refine pC_o (o' := (0, nI M.2.length, M.1, M.2 ++ [(u0, n1, none, [])])) ((ca_0 zu0 hsu0 (by rw [c4, caG_1]; rfl) (by omega)).trans (by rw [eo9, nI_clamp (by omega)])) ⟨rfl, ?_, ⟨_, _, hRn⟩, sfn⟩
        rw [show M.2.length + 1 - 1 = M.2.length by omega]
      · refine jv_throwS (text := "there are all the callers") G Z ht th_88 (by decide) (by decide) dX7_caller_58 dX7_caller_61 dX7_caller_62 dX7_caller_64 dX7_caller_67 (Nat.le_of_ble_eq_true rfl) (by decide) (by decide) ?_
        exact pX_o (o' := (4, 0, M)) (ca_4 zu0 hsu0 (by rw [c4, caG_1]; rfl) (by omega)) ⟨(show ¬ (4 : Nat) = 0 by decide), rfl, ⟨_, _, hR⟩, .rf⟩
    · refine jv_aload (q := 32) G 0 dX7_caller_30 rfl rfl ?_
      refine jv_iload_n (q := 33) G 4 dX7_caller_32 rfl rfl rfl ?_
      refine jv_callV_R (q := 36) (h1 := h) (As := [.int p2]) (rest := []) (ce' := 0 + 2) (sl' := 0 + 12) (r := ((m_cn (ma_t M u0) p2 false).map (fun k => T (10 * u0 + k)))) G Z ml_X7_170 (k_classNamed hlt hEu0) hEu0.1.1 dX7_caller_33 rfl (by decide) (by decide) (by decide) (by decide) (Nat.le_of_ble_eq_true rfl) rfl rfl rfl rfl ?_
      rcases Option.eq_none_or_eq_some (m_cn (ma_t M u0) p2 false) with hk12 | ⟨k10, hk12⟩
      · refine jv_topR (y := none) (by rw [hk12]; rfl) ?_
        refine jv_ifnonnull (q := 39) (tgt := 49) (x := none) G dX7_caller_36 (by decide) rfl (fun a14 c13 => ?_) (fun c13 => ?_)
        · cases c13
        · refine jv_throwS (text := "no such class") G Z ht th_70 (by decide) (by decide) dX7_caller_39 dX7_caller_42 dX7_caller_43 dX7_caller_45 dX7_caller_48 (Nat.le_of_ble_eq_true rfl) (by decide) (by decide) ?_
          exact pX_o (o' := (3, 0, M)) (ca_3 zu0 hsu0 (by rw [caG_n c5 hk12, Bool.and_false])) ⟨(show ¬ (3 : Nat) = 0 by decide), rfl, ⟨_, _, hR⟩, .rf⟩
      · refine jv_topR (y := (some (T (10 * u0 + k10)))) (by rw [hk12]; rfl) ?_
        obtain ⟨t11, ht11, nt11⟩ := m_cn_get hk12
        have lt11 := jv_ltGet ht11
        have k10t11 : k10 < 10 := by have := hEu0.2.2.2.1; omega
        have Ot11 := (hEu0.2.2.2.2.1 k10 t11 ht11).2
        have Vt11 := (hEu0.2.2.2.2.1 k10 t11 ht11).1
        have Yt11 := hEu0.2.1 k10 k10t11
        have bt11n := Ot11.1; have bt11k := Ot11.2.1
        refine jv_ifnonnull (q := 39) (tgt := 49) (x := (some (T (10 * u0 + k10)))) G dX7_caller_36 (by decide) rfl (fun a16 c15 => ?_) (fun c15 => ?_)
        · refine jv_aload_n (q := 50) G 1 dX7_caller_49 rfl rfl rfl ?_
          refine jv_getI (q := 53) G dX7_caller_50 fl_X7_181 rfl hR.1.1.1 hR.1.2.1.2.2.1 rfl ?_
          refine jv_bipush (q := 55) (v := nI 12) G dX7_caller_53 (by decide) rfl ?_
          refine jv_icmp_ltN (q := 58) (tgt := 68) G dX7_caller_55 (by decide) rfl (by omega) (by omega) (fun c17 => ?_) (fun c17 => ?_)
          · refine jv_aload_n (q := 69) G 1 dX7_caller_68 rfl rfl rfl ?_
            refine jv_getQ (q := 72) G dX7_caller_69 fl_X7_17 rfl hR.1.1.1 hR.1.1.2.2.2.1 rfl ?_
            have ep2 := nt11.1
            subst ep2
            refine jv_aload_n (q := 73) G 1 dX7_caller_72 rfl rfl rfl ?_
            refine jv_getI (q := 76) G dX7_caller_73 fl_X7_181 rfl hR.1.1.1 hR.1.2.1.2.2.1 rfl ?_
            refine jv_aaldQ (q := 77) G dX7_caller_76 hR.1.1.2.2.2.2.1 rfl (by omega) (by decide) (hR.1.1.2.2.2.2.2.2.2.2.2.2 M.2.length (by omega)) rfl ?_
            refine jv_iload_n (q := 78) G 2 dX7_caller_77 rfl rfl rfl ?_
            refine jv_iload_n (q := 79) G 3 dX7_caller_78 rfl rfl rfl ?_
            refine jv_iload_n (q := 80) G 4 dX7_caller_79 rfl rfl rfl ?_
            refine jv_callV (q := 83) (As := [.int (nI u0), .int (nI n1), .int (nI (mt_n t11))]) (rest := []) G Z ml_X7_186 (k_cBegin (ec := u0) (p := n1) (su := (some (mt_n t11))) hlt (hR.2.1.1 M.2.length (by omega)).1) (hR.2.1.1 M.2.length (by omega)).1 dX7_caller_80 rfl (by decide) (by decide) (by decide) (by decide) (Nat.le_of_ble_eq_true rfl) rfl rfl (fun v19 h18 y20 => ?_) (fun _ _ hx => hx.elim)
            obtain ⟨rfl, hF9, hc9, h49⟩ := y20
            show jv_V E 5 h18 (0 + 2) (0 + 12) (jv_Q E (pC z tO h (m_ca M (nI u0) (nI n1) (nI (mt_n t11)))) (pX z tO h ["java/lang/IndexOutOfBoundsException", "java/lang/IllegalStateException", "java/lang/IllegalArgumentException", "java/lang/UnsupportedOperationException"] (m_ca M (nI u0) (nI n1) (nI (mt_n t11)))) 3 18) 83 [(4, .ref (z 0 u0)), (0, .ref (z 6 0)), (1, .int (nI u0)), (2, .int (nI n1)), (3, .int (nI (mt_n t11)))] []
            have n6 : z 6 0 ≠ z 3 M.2.length := sh_no hR.1.1.1 (hR.2.1.1 _ (by omega)).1 (by intro q; cases q)
            refine jv_aload_n (q := 84) G 1 dX7_caller_83 rfl rfl rfl ?_
            refine jv_dup (q := 85) G dX7_caller_84 rfl rfl ?_
            refine jv_getI (q := 88) G dX7_caller_85 fl_X7_181 rfl ((congrFun hF9.1 _).trans hR.1.1.1) ((hF9.i n6 3).trans hR.1.2.1.2.2.1) rfl ?_
            refine jv_iconst (q := 89) (v := nI 1) G dX7_caller_88 (by decide) rfl ?_
            refine jv_iaddN (q := 90) G dX7_caller_89 rfl ?_
            refine jv_putI (q := 93) G dX7_caller_90 fl_X7_181 rfl ((congrFun hF9.1 _).trans hR.1.1.1) rfl ?_
            refine jv_aload_n (q := 94) G 1 dX7_caller_93 rfl rfl rfl ?_
            refine jv_getI (q := 97) G dX7_caller_94 fl_X7_181 rfl ((congrFun hF9.1 _).trans hR.1.1.1) (jv_I_self _ _ _ _) rfl ?_
            refine jv_iconst (q := 98) (v := nI 1) G dX7_caller_97 (by decide) rfl ?_
            refine jv_isubN (q := 99) G dX7_caller_98 (by omega) rfl ?_
            refine jv_iret G hr dX7_caller_99 (Nat.le_of_ble_eq_true rfl) (Nat.le_of_ble_eq_true rfl) ?_
            obtain ⟨hRn, sfn⟩ := hR.caN (ec := u0) (p := n1) (su := (some (mt_n t11))) (by omega) hu0 hsu0 hn1 (fun u q => by cases q; exact Ot11.1) hF9 hc9 h49 rfl
            have eo9 : m_oI (nI (mt_n t11)) = (some (mt_n t11)) := (by unfold m_oI; rw [if_neg (jv_nI_m1 (by omega)), nI_clamp (by omega)])
            refine pC_o (o' := (0, nI M.2.length, M.1, M.2 ++ [(u0, n1, (some (mt_n t11)), [])])) ((ca_0 zu0 hsu0 (by rw [c4, caG_c hk12]; rfl) (by omega)).trans (by rw [eo9, nI_clamp (by omega)])) ⟨rfl, ?_, ⟨_, _, hRn⟩, sfn⟩
            rw [show M.2.length + 1 - 1 = M.2.length by omega]
          · refine jv_throwS (text := "there are all the callers") G Z ht th_88 (by decide) (by decide) dX7_caller_58 dX7_caller_61 dX7_caller_62 dX7_caller_64 dX7_caller_67 (Nat.le_of_ble_eq_true rfl) (by decide) (by decide) ?_
            exact pX_o (o' := (4, 0, M)) (ca_4 zu0 hsu0 (by rw [c4, caG_c hk12]; rfl) (by omega)) ⟨(show ¬ (4 : Nat) = 0 by decide), rfl, ⟨_, _, hR⟩, .rf⟩
        · cases c15
  · refine jv_throwS (text := "no such package") G Z ht th_70 (by decide) (by decide) dX7_caller_15 dX7_caller_18 dX7_caller_19 dX7_caller_21 dX7_caller_24 (Nat.le_of_ble_eq_true rfl) (by decide) (by decide) ?_
    exact pX_o (o' := (3, 0, M)) (ca_3 zu0 hsu0 (by rw [c4]; rfl)) ⟨(show ¬ (3 : Nat) = 0 by decide), rfl, ⟨_, _, hR⟩, .rf⟩
