section MB
variable {z : Nat → Nat → Nat} {T : Nat → Nat} {N N' : Nat → Nat → Nat} {tO : Nat → Nat} {h h1 : jv_H} {M : mA}
theorem ky_some {n s : Int32} {K : Nat} (h : ky n s = some K) : ∃ a b, a < 16 ∧ b < 4 ∧ n = nI a ∧ s = nI b ∧ K = 4 * a + b ∧ rr_lt n 16 = true ∧ rr_lt s 4 = true := by
  cases h1 : rr_lt n 16 with
  | false => have := rr_lt_f h1; unfold ky at h; rw [this] at h; cases h
  | true =>
    cases h2 : rr_lt s 4 with
    | false =>
      have := rr_lt_f h2
      unfold ky at h
      rw [this] at h
      cases hm : m_ix1 16 n with
      | none => rw [hm] at h; cases h
      | some _ => rw [hm] at h; cases h
    | true =>
      obtain ⟨a, ha, ea, -⟩ := rr_lt_t (by decide) h1
      obtain ⟨b, hb, eb, -⟩ := rr_lt_t (by decide) h2
      rw [ea, eb, ky_nI ha hb] at h
      exact ⟨a, b, ha, hb, ea, eb, (Option.some.inj h).symm, rfl, rfl⟩
theorem ky_none {n s : Int32} (h : ky n s = none) : (rr_lt n 16 && rr_lt s 4) = false := by
  cases h1 : rr_lt n 16 with
  | false => rfl
  | true =>
    cases h2 : rr_lt s 4 with
    | false => rfl
    | true =>
      obtain ⟨a, ha, ea, -⟩ := rr_lt_t (by decide) h1
      obtain ⟨b, hb, eb, -⟩ := rr_lt_t (by decide) h2
      rw [ea, eb, ky_nI ha hb] at h
      cases h
theorem mbN_ok {t : mT} {w n s a b : Int32} {st : Bool} (g : m_mbG t w n s a st b = true) : mm_ok (m_mbN w n s a st b) := by
  unfold m_mbG at g
  simp only [Bool.and_eq_true] at g
  obtain ⟨⟨⟨⟨⟨⟨⟨⟨g1, g2⟩, g3⟩, g4⟩, g5⟩, -⟩, -⟩, -⟩, -⟩ := g
  have a2 := in_N (by decide) g2
  have a3 := in_N (by decide) g3
  have a4 := in_N (by decide) g4
  refine ⟨Nat.lt_succ_of_le a2.1, Nat.lt_succ_of_le a3.1, Nat.lt_succ_of_le a4.1, ?_⟩
  show (b = -1 ∧ decide (w = nI 1) = true) ∨ ∃ k, k < 10 ∧ b = nI k
  by_cases hw : w = nI 1
  · rw [if_pos hw] at g5
    have a5 := in_O (by decide) g5
    cases hb : m_oI b with
    | none =>
      rw [hb] at a5
      exact Or.inl ⟨a5.1, by simpa using hw⟩
    | some u =>
      rw [hb] at a5
      exact Or.inr ⟨u, Nat.lt_succ_of_le (a5.2 u rfl), a5.1⟩
  · rw [if_neg hw] at g5
    have a5 := in_N (by decide) g5
    exact Or.inr ⟨_, Nat.lt_succ_of_le a5.1, a5.2⟩
theorem tM_ok {t : mT} {l : List mM} (ho : mt_ok t) (hl : l.length ≤ 6) (hm : ∀ m ∈ l, mm_ok m) : mt_ok (m_tM t l) := ⟨ho.1, ho.2.1, ho.2.2.1, ho.2.2.2.1, ho.2.2.2.2.1, hl, hm⟩
theorem kk_eq {m m' : mM} (o : mm_ok m) (o' : mm_ok m') (h : kk m = kk m') : mm_w m = mm_w m' ∧ 4 * mm_n m + mm_s m = 4 * mm_n m' + mm_s m' := by
  have a1 := o.1; have a2 := o.2.1; have b1 := o'.1; have b2 := o'.2.1
  unfold kk at h
  cases h1 : mm_w m <;> cases h2 : mm_w m' <;> rw [h1, h2] at h <;> simp at h
  · exact ⟨rfl, by omega⟩
  · omega
  · omega
  · exact ⟨rfl, by omega⟩
theorem oc_none {t : mT} {w : Bool} {K : Nat} (h : m_oc t w (some K) = none) {j : Nat} {m : mM} (hm : (mt_m t)[j]? = some m) (hw : mm_w m = w) : 4 * mm_n m + mm_s m ≠ K := fun q => by
  unfold m_oc at h
  have := sf_none.mp h j (Nat.zero_le _) (by have := jv_ltGet hm; omega)
  rw [hm] at this
  have e : decide (mm_w m = w ∧ some (4 * mm_n m + mm_s m) = some K) = true := decide_eq_true ⟨hw, congrArg some q⟩
  have this : decide (mm_w m = w ∧ some (4 * mm_n m + mm_s m) = some K) = false := this
  rw [e] at this
  cases this
theorem uk_add {t : mT} {m : mM} (ho : mt_ok t) (hu : m_uk t) (om : mm_ok m) (hno : m_oc t (mm_w m) (some (4 * mm_n m + mm_s m)) = none) : m_uk (m_tM t (mt_m t ++ [m])) := by
  intro a b x y hx hy q
  have hx : (mt_m t ++ [m])[a]? = some x := hx
  have hy : (mt_m t ++ [m])[b]? = some y := hy
  have g : ∀ {c : Nat} {v : mM}, (mt_m t)[c]? = some v → kk v ≠ kk m := fun {c v} hv e => by
    obtain ⟨e1, e2⟩ := kk_eq (ho.2.2.2.2.2.2 v (List.mem_of_getElem? hv)) om e
    exact oc_none hno hv e1 e2
  have ha := jv_ltGet hx
  have hb := jv_ltGet hy
  rw [List.length_append, List.length_singleton] at ha hb
  by_cases h1 : a = (mt_m t).length <;> by_cases h2 : b = (mt_m t).length
  · omega
  · rw [List.getElem?_append_left (by omega)] at hy
    subst h1
    rw [List.getElem?_append_right (Nat.le_refl _), Nat.sub_self] at hx
    cases hx
    exact absurd q.symm (g hy)
  · rw [List.getElem?_append_left (by omega)] at hx
    subst h2
    rw [List.getElem?_append_right (Nat.le_refl _), Nat.sub_self] at hy
    cases hy
    exact absurd q (g hx)
  · rw [List.getElem?_append_left (by omega)] at hx hy
    exact hu a b x y hx hy q
theorem er_g2 {α : Type} {l : List α} {d j : Nat} {t : α} (h : (l.eraseIdx d)[j]? = some t) : ∃ j', l[j']? = some t ∧ j' = (if j < d then j else j + 1) := by
  by_cases hj : j < d
  · rw [er_lt hj] at h; exact ⟨j, h, by rw [if_pos hj]⟩
  · rw [er_ge (by omega)] at h; exact ⟨j + 1, h, by rw [if_neg hj]⟩
theorem uk_er {t : mT} {d : Nat} (hu : m_uk t) : m_uk (m_tM t ((mt_m t).eraseIdx d)) := by
  intro a b x y hx hy q
  have hx : ((mt_m t).eraseIdx d)[a]? = some x := hx
  have hy : ((mt_m t).eraseIdx d)[b]? = some y := hy
  obtain ⟨a', ha', ea⟩ := er_g2 hx
  obtain ⟨b', hb', eb⟩ := er_g2 hy
  have := hu a' b' x y ha' hb' q
  split at ea <;> split at eb <;> omega
theorem kc_er {t : mT} {d : Nat} (hu : m_kc t) : m_kc (m_tM t ((mt_m t).eraseIdx d)) := fun m hm => hu m (List.mem_of_mem_eraseIdx hm)
/-- a new member keeps what is kept of a type -/
theorem mb_keep {t : mT} {w n s a b : Int32} {st : Bool} (ho : mt_ok t) (hl : (mt_m t).length < 6) (e0 : m_uk t ∧ (mt_i t = true → mt_a t = true) ∧ m_kc t) (g : m_mbG t w n s a st b = true) : mt_ok (m_tM t (mt_m t ++ [m_mbN w n s a st b])) ∧ m_uk (m_tM t (mt_m t ++ [m_mbN w n s a st b])) ∧ (mt_i (m_tM t (mt_m t ++ [m_mbN w n s a st b])) = true → mt_a (m_tM t (mt_m t ++ [m_mbN w n s a st b])) = true) ∧ m_kc (m_tM t (mt_m t ++ [m_mbN w n s a st b])) := by
  have om := mbN_ok g
  have g2 := g
  rw [mbG_eq ho] at g2
  simp only [Bool.and_eq_true] at g2
  obtain ⟨⟨⟨k1, k2⟩, k3⟩, k4⟩ := g2
  obtain ⟨x, hx, ex, -⟩ := rr_lt_t (by decide) k1
  obtain ⟨y, hy, ey, -⟩ := rr_lt_t (by decide) k2
  have em : 4 * mm_n (m_mbN w n s a st b) + mm_s (m_mbN w n s a st b) = 4 * x + y := by
    show 4 * n.toNatClampNeg + s.toNatClampNeg = _
    rw [ex, ey, nI_clamp (by omega), nI_clamp (by omega)]
  refine ⟨tM_ok ho (by rw [List.length_append, List.length_singleton]; omega) (fun m hm => ?_), uk_add ho e0.1 om ?_, e0.2.1, fun m hm hc => ?_⟩
  · rcases List.mem_append.mp hm with q | q
    · exact ho.2.2.2.2.2.2 m q
    · rw [List.mem_singleton.mp q]; exact om
  · rw [em]
    rw [ex, ey, ky_nI hx hy] at k4
    exact Option.isNone_iff_eq_none.mp k4
  · have hm : m ∈ mt_m t ++ [m_mbN w n s a st b] := hm
    rcases List.mem_append.mp hm with q | q
    · exact e0.2.2 m q hc
    · rw [List.mem_singleton.mp q] at hc ⊢
      have hc : decide (w = nI 2) = true := hc
      have hw := of_decide_eq_true hc
      refine ⟨?_, ?_⟩
      · show decide (w = nI 1) = false
        rw [hw]; rfl
      · show st = true
        unfold c_cb at k3
        rw [hc] at k3
        cases hst : st with
        | true => rfl
        | false => rw [hst] at k3; simp at k3
end MB
set_option maxHeartbeats 4000000 in
set_option maxRecDepth 100000 in
theorem k_member {lA : Launch} (hlt : lA.stackTraces = false) {D : jv_D} {base : Nat} {z : Nat → Nat → Nat} {T : Nat → Nat} {N : Nat → Nat → Nat} {tO : Nat → Nat} {h : jv_H} {M : mA} (hR : cl_R z T N tO h M) {p0 : Int32} {p1 : Int32} {p2 : Int32} {p3 : Int32} {p4 : Int32} {p5 : Int32} {p6 : Bool} {p7 : Int32} : jv_Met lA D base yX7_member (.code yX7_member cX7_member 11 (some .int)) 4 4 24 [.ref (z 6 0), .int p0, .int p1, .int p2, .int p3, .int p4, .int p5, .int (jv_bI p6), .int p7] h (pC z tO h (m_mb M p0 p1 p2 p3 p4 p5 p6 p7)) (pX z tO h ["java/lang/IndexOutOfBoundsException", "java/lang/IllegalStateException", "java/lang/IllegalArgumentException", "java/lang/UnsupportedOperationException"] (m_mb M p0 p1 p2 p3 p4 p5 p6 p7)) := by
  refine jv_ofV (lo := [(0, .ref (z 6 0)), (1, .int p0), (2, .int p1), (3, .int p2), (4, .int p3), (5, .int p4), (6, .int p5), (7, .int (jv_bI p6)), (8, .int p7)]) hlt (by decide) (Nat.le_of_ble_eq_true rfl) rfl (fun E hEl hEd hEz Z G hr ht hnm => ?_)
  subst hEl; subst hEd; subst hEz
  have hl8 := hR.1.2.1.2.1; have hl12 := hR.1.2.1.2.2.2
  refine jv_aload_n (q := 1) G 0 dX7_member_0 rfl rfl rfl ?_
  refine jv_iload_n (q := 2) G 1 dX7_member_1 rfl rfl rfl ?_
  refine jv_callV (q := 5) (As := [.int p0]) (rest := []) G Z ml_X7_59 (k_openEdition hlt hR) hR.1.1.1 dX7_member_2 rfl (by decide) (by decide) (by decide) (by decide) (Nat.le_of_ble_eq_true rfl) rfl rfl (fun v2 h1 y3 => ?_) (fun cx hx yx => jv_out G ht (Nat.le_of_ble_eq_true rfl) (Nat.le_of_ble_eq_true rfl) (by obtain ⟨rfl, y1 | ⟨kq, y1, y2, y3⟩⟩ := yx; exact pX_o (o' := (1, 0, M)) (op_1 y1.1) ⟨(show ¬ (1 : Nat) = 0 by decide), y1.2, ⟨_, _, hR⟩, .rf⟩; exact pX_o (o' := (2, 0, M)) (op_2 y1 y2) ⟨(show ¬ (2 : Nat) = 0 by decide), y3, ⟨_, _, hR⟩, .rf⟩))
  obtain ⟨u0, hu0, rfl, zu0, hsu0, rfl, rfl⟩ := y3
  show jv_V E 11 h (0 + 2) (0 + 12) (jv_Q E (pC z tO h (m_mb M (nI u0) p1 p2 p3 p4 p5 p6 p7)) (pX z tO h ["java/lang/IndexOutOfBoundsException", "java/lang/IllegalStateException", "java/lang/IllegalArgumentException", "java/lang/UnsupportedOperationException"] (m_mb M (nI u0) p1 p2 p3 p4 p5 p6 p7)) 4 24) 5 [(0, .ref (z 6 0)), (1, .int (nI u0)), (2, .int p1), (3, .int p2), (4, .int p3), (5, .int p4), (6, .int p5), (7, .int (jv_bI p6)), (8, .int p7)] [.ref (z 0 u0)]
  have q8u0 : u0 < 8 := by omega
  have hEu0 := (hR.1.2.2.1 u0 q8u0).1; have oeu0 := (hR.1.2.2.1 u0 q8u0).2.1; have eou0 := hR.1.2.2.2 u0 q8u0; have ltu0 : (ma_t M u0).length ≤ 10 := hEu0.2.2.2.1
  refine jv_iload_n (q := 6) G 2 dX7_member_5 rfl rfl rfl ?_
  refine jv_callS (q := 9) (As := [.ref (z 0 u0), .int p1]) (rest := []) G Z ml_X7_97 (k_typeOf hlt hEu0) dX7_member_6 rfl (by decide) (by decide) (by decide) (by decide) (Nat.le_of_ble_eq_true rfl) rfl rfl (fun v5 h4 y6 => ?_) (fun cx hx yx => jv_out G ht (Nat.le_of_ble_eq_true rfl) (Nat.le_of_ble_eq_true rfl) (by obtain ⟨y1, y2, rfl⟩ := yx; exact pX_o (o' := (3, 0, M)) (opT_n zu0 hsu0 y1) ⟨(show ¬ (3 : Nat) = 0 by decide), y2, ⟨_, _, hR⟩, .rf⟩))
  obtain ⟨i0, hi0, rfl, rfl⟩ := y6
  show jv_V E 11 h (0 + 2 + 1) (0 + 12 + 6) (jv_Q E (pC z tO h (m_mb M (nI u0) p1 p2 p3 p4 p5 p6 p7)) (pX z tO h ["java/lang/IndexOutOfBoundsException", "java/lang/IllegalStateException", "java/lang/IllegalArgumentException", "java/lang/UnsupportedOperationException"] (m_mb M (nI u0) p1 p2 p3 p4 p5 p6 p7)) 4 24) 9 [(0, .ref (z 6 0)), (1, .int (nI u0)), (2, .int p1), (3, .int p2), (4, .int p3), (5, .int p4), (6, .int p5), (7, .int (jv_bI p6)), (8, .int p7)] [.ref (T (10 * u0 + i0))]
  obtain ⟨t0, ht0, nt0⟩ := m_at_get hi0
  have lt0 := jv_ltGet ht0
  have k10t0 : i0 < 10 := by have := hEu0.2.2.2.1; omega
  have Ot0 := (hEu0.2.2.2.2.1 i0 t0 ht0).2
  have Vt0 := (hEu0.2.2.2.2.1 i0 t0 ht0).1
  have Yt0 := hEu0.2.1 i0 k10t0
  have bt0n := Ot0.1; have bt0k := Ot0.2.1
  have e0 := eou0.2.1 t0 (List.mem_of_getElem? ht0); have f3 := Ot0.2.2.2.1; have m6 := Ot0.2.2.2.2.2.1; have oT := oeu0.2.2.2.1 i0 k10t0
  refine jv_astore (q := 11) (lo' := [(9, .ref (T (10 * u0 + i0))), (0, .ref (z 6 0)), (1, .int (nI u0)), (2, .int p1), (3, .int p2), (4, .int p3), (5, .int p4), (6, .int p5), (7, .int (jv_bI p6)), (8, .int p7)]) G dX7_member_9 (by decide) rfl rfl ?_
  refine jv_iload (q := 13) G 5 dX7_member_11 rfl rfl ?_
  refine jv_iload (q := 15) G 6 dX7_member_13 rfl rfl ?_
  refine jv_callS_I (q := 18) (h1 := h) (As := [.int p3, .int p4]) (rest := []) (ce' := 0 + 2 + 1) (sl' := 0 + 12 + 6) (r := jv_oN (ky p3 p4)) G Z ml_X7_116 (k_keyOf hlt) dX7_member_15 rfl (by decide) (by decide) (by decide) (by decide) (Nat.le_of_ble_eq_true rfl) rfl rfl rfl rfl ?_
  rcases Option.eq_none_or_eq_some (ky p3 p4) with hky | ⟨K, hky⟩
  · refine jv_topI (y := (-1)) (by rw [hky]; rfl) ?_
    refine jv_istore (q := 20) (lo' := [(10, .int (-1)), (9, .ref (T (10 * u0 + i0))), (0, .ref (z 6 0)), (1, .int (nI u0)), (2, .int p1), (3, .int p2), (4, .int p3), (5, .int p4), (6, .int p5), (7, .int (jv_bI p6)), (8, .int p7)]) G dX7_member_18 (by decide) rfl rfl ?_
    refine jv_iload (q := 22) G 0 dX7_member_20 rfl rfl ?_
    refine jv_iconst (q := 23) (v := (-1)) G dX7_member_22 (by decide) rfl ?_
    refine jv_icmp_eq (q := 26) (tgt := 41) G dX7_member_23 (by decide) rfl (fun c7 => ?_) (fun c7 => ?_)
    · refine jv_throwS (text := "a member cannot be so") G Z ht th_70 (by decide) (by decide) dX7_member_41 dX7_member_44 dX7_member_45 dX7_member_47 dX7_member_50 (Nat.le_of_ble_eq_true rfl) (by decide) (by decide) ?_
      have gm : m_mbG t0 p2 p3 p4 p5 p6 p7 = false := by rw [mbG_eq Ot0, ky_none hky]; rfl
      exact pX_o (o' := (3, 0, M)) ((opT_0 zu0 hsu0 hi0 ht0).trans (if_neg (by rw [gm]; decide))) ⟨(show ¬ (3 : Nat) = 0 by decide), rfl, ⟨_, _, hR⟩, .rf⟩
    · exact absurd rfl c7
  · refine jv_topI (y := nI K) (by rw [hky]; rfl) ?_
    have K64 := ky_lt hky
    obtain ⟨ka, kb, ha16, hb4, eka, ekb, eK, rk1, rk2⟩ := ky_some hky
    have hK : ∀ K', some K = some K' → K' < 64 := fun _ q => by cases q; exact K64
    refine jv_istore (q := 20) (lo' := [(10, .int (nI K)), (9, .ref (T (10 * u0 + i0))), (0, .ref (z 6 0)), (1, .int (nI u0)), (2, .int p1), (3, .int p2), (4, .int p3), (5, .int p4), (6, .int p5), (7, .int (jv_bI p6)), (8, .int p7)]) G dX7_member_18 (by decide) rfl rfl ?_
    refine jv_iload (q := 22) G 0 dX7_member_20 rfl rfl ?_
    refine jv_iconst (q := 23) (v := (-1)) G dX7_member_22 (by decide) rfl ?_
    refine jv_icmp_eq (q := 26) (tgt := 41) G dX7_member_23 (by decide) rfl (fun c8 => ?_) (fun c8 => ?_)
    · exact absurd c8 (jv_nI_m1 (by omega))
    · refine jv_aload (q := 28) G 1 dX7_member_26 rfl rfl ?_
      refine jv_iload_n (q := 29) G 5 dX7_member_28 rfl rfl rfl ?_
      refine jv_iload (q := 31) G 8 dX7_member_29 rfl rfl ?_
      refine jv_iload (q := 33) G 9 dX7_member_31 rfl rfl ?_
      refine jv_iload (q := 35) G 10 dX7_member_33 rfl rfl ?_
      refine jv_callS_I (q := 38) (h1 := h) (As := [.ref (T (10 * u0 + i0)), .int p2, .int p5, .int (jv_bI p6), .int p7]) (rest := []) (ce' := 0 + 2 + 1) (sl' := 0 + 12 + 6) (r := jv_bI (c_cb (mt_i t0) p2 p5 p6 p7)) G Z ml_X7_120 (k_canBe hlt Yt0 Vt0 Ot0) dX7_member_35 rfl (by decide) (by decide) (by decide) (by decide) (Nat.le_of_ble_eq_true rfl) rfl rfl rfl rfl ?_
      refine jv_if_neB (q := 41) (tgt := 51) G dX7_member_38 (by decide) rfl (fun c9 => ?_) (fun c9 => ?_)
      · refine jv_aload (q := 53) G 1 dX7_member_51 rfl rfl ?_
        refine jv_iload_n (q := 54) G 5 dX7_member_53 rfl rfl rfl ?_
        refine jv_iconst (q := 55) (v := nI 1) G dX7_member_54 (by decide) rfl ?_
        refine jv_icmp_ne (q := 58) (tgt := 62) G dX7_member_55 (by decide) rfl (fun c10 => ?_) (fun c10 => ?_)
        · refine jv_iconst (q := 63) (v := nI 0) G dX7_member_62 (by decide) rfl ?_
          refine jv_iload (q := 65) G 0 dX7_member_63 rfl rfl ?_
          refine jv_callV_I (q := 68) (h1 := h) (As := [.int (nI 0), .int (nI K)]) (rest := []) (ce' := 0 + 2 + 1) (sl' := 0 + 12 + 6) (r := jv_bI (m_has t0 false (some K))) G Z ml_X7_126 (k_has (w := false) (ko := (some K)) hlt Yt0 Vt0 Ot0 hK) (hEu0.2.1 i0 k10t0).1 dX7_member_65 rfl (by decide) (by decide) (by decide) (by decide) (Nat.le_of_ble_eq_true rfl) rfl rfl rfl rfl ?_
          refine jv_if_eqB (q := 71) (tgt := 81) G dX7_member_68 (by decide) rfl (fun c11 => ?_) (fun c11 => ?_)
          · refine jv_aload (q := 83) G 1 dX7_member_81 rfl rfl ?_
            refine jv_getI (q := 86) G dX7_member_83 fl_X7_132 rfl (hEu0.2.1 i0 k10t0).1 (ct_9 (hEu0.2.2.2.2.1 i0 t0 ht0).1) rfl ?_
            refine jv_bipush (q := 88) (v := nI 6) G dX7_member_86 (by decide) rfl ?_
            refine jv_icmp_ltN (q := 91) (tgt := 101) G dX7_member_88 (by decide) rfl (by omega) (by omega) (fun c12 => ?_) (fun c12 => ?_)
            · refine jv_aload (q := 103) G 1 dX7_member_101 rfl rfl ?_
              refine jv_iload_n (q := 104) G 5 dX7_member_103 rfl rfl rfl ?_
              refine jv_iload (q := 106) G 0 dX7_member_104 rfl rfl ?_
              refine jv_iload (q := 108) G 8 dX7_member_106 rfl rfl ?_
              refine jv_iload (q := 110) G 9 dX7_member_108 rfl rfl ?_
              refine jv_iload (q := 112) G 10 dX7_member_110 rfl rfl ?_
              have hoc := (has_oc (w := false) Ot0 e0.1 hK).symm.trans c11
              have hwd := decide_eq_false c10
              have gm : m_mbG t0 p2 p3 p4 p5 p6 p7 = true := by rw [mbG_eq Ot0, rk1, rk2, c9, hwd, hky, Option.isSome_eq_false_iff.mp hoc]; rfl
              obtain ⟨ok1, ok2⟩ := mb_keep Ot0 (by omega) e0 gm
              have ac4 : p5 = nI p5.toNatClampNeg := (rr_cl (n := 4) (by decide) (by have := c9; unfold c_cb at this; simp only [Bool.and_eq_true] at this; exact this.1.1.1.2)).1
              refine jv_callV (q := 115) (As := [.int p2, .int (nI K), .int p5, .int (jv_bI p6), .int p7]) (rest := []) G Z ml_X7_137 (k_addMember (n := p3) (s := p4) hlt Yt0 Vt0 Ot0 (by omega) K64 (by rw [eK, eka, ekb, nI_clamp (by omega), nI_clamp (by omega)]) ac4 oT.2.2.2.2.2) (hEu0.2.1 i0 k10t0).1 dX7_member_112 rfl (by decide) (by decide) (by decide) (by decide) (Nat.le_of_ble_eq_true rfl) rfl rfl (fun v14 h13 y15 => ?_) (fun _ _ hx => hx.elim)
              obtain ⟨rfl, hF9, hV9⟩ := y15
              show jv_V E 11 h13 (0 + 2 + 1) (0 + 12 + 6) (jv_Q E (pC z tO h (m_mb M (nI u0) p1 p2 p3 p4 p5 p6 p7)) (pX z tO h ["java/lang/IndexOutOfBoundsException", "java/lang/IllegalStateException", "java/lang/IllegalArgumentException", "java/lang/UnsupportedOperationException"] (m_mb M (nI u0) p1 p2 p3 p4 p5 p6 p7)) 4 24) 115 [(10, .int (nI K)), (9, .ref (T (10 * u0 + i0))), (0, .ref (z 6 0)), (1, .int (nI u0)), (2, .int p1), (3, .int p2), (4, .int p3), (5, .int p4), (6, .int p5), (7, .int (jv_bI p6)), (8, .int p7)] []
              refine jv_aload (q := 117) G 1 dX7_member_115 rfl rfl ?_
              refine jv_getI (q := 120) G dX7_member_117 fl_X7_132 rfl ((congrFun hF9.1 _).trans Yt0.1) (ct_9 hV9) rfl ?_
              refine jv_iret G hr dX7_member_120 (Nat.le_of_ble_eq_true rfl) (Nat.le_of_ble_eq_true rfl) ?_
              obtain ⟨hRn, sfn⟩ := hR.ty (N' := N) (t' := m_tM t0 (mt_m t0 ++ [m_mbN p2 p3 p4 p5 p6 p7])) hu0 hsu0 ht0 rfl ok1 hF9.G (fun b q => by rcases q with q | ⟨j, hj, q⟩; exact q ▸ oT.1; exact q ▸ oT.2.2.2.2.1 j hj) (fun _ _ _ => rfl) oT (hF9.t Yt0) hV9 ok2
              refine pC_o (o' := (0, nI ((mt_m t0).length + 1), m_put M u0 (false, (ma_t M u0).set i0 (m_tM t0 (mt_m t0 ++ [m_mbN p2 p3 p4 p5 p6 p7]))))) ((opT_0 zu0 hsu0 hi0 ht0).trans ((if_pos gm).trans (if_neg (by omega)))) ⟨rfl, ?_, ⟨_, _, hRn⟩, sfn⟩
              have el : (mt_m (m_tM t0 (mt_m t0 ++ [m_mbN p2 p3 p4 p5 p6 p7]))).length = (mt_m t0).length + 1 := by show (mt_m t0 ++ [m_mbN p2 p3 p4 p5 p6 p7]).length = _; rw [List.length_append, List.length_singleton]
              rw [el]
            · refine jv_throwS (text := "the type is full") G Z ht th_88 (by decide) (by decide) dX7_member_91 dX7_member_94 dX7_member_95 dX7_member_97 dX7_member_100 (Nat.le_of_ble_eq_true rfl) (by decide) (by decide) ?_
              have hoc := (has_oc (w := false) Ot0 e0.1 hK).symm.trans c11
              have hwd := decide_eq_false c10
              have gm : m_mbG t0 p2 p3 p4 p5 p6 p7 = true := by rw [mbG_eq Ot0, rk1, rk2, c9, hwd, hky, Option.isSome_eq_false_iff.mp hoc]; rfl
              exact pX_o (o' := (4, 0, M)) ((opT_0 zu0 hsu0 hi0 ht0).trans ((if_pos gm).trans (if_pos (by omega)))) ⟨(show ¬ (4 : Nat) = 0 by decide), rfl, ⟨_, _, hR⟩, .rf⟩
          · refine jv_throwS (text := "there is one already") G Z ht th_70 (by decide) (by decide) dX7_member_71 dX7_member_74 dX7_member_75 dX7_member_77 dX7_member_80 (Nat.le_of_ble_eq_true rfl) (by decide) (by decide) ?_
            have hoc := (has_oc (w := false) Ot0 e0.1 hK).symm.trans c11
            have hwd := decide_eq_false c10
            have gm : m_mbG t0 p2 p3 p4 p5 p6 p7 = false := by rw [mbG_eq Ot0, hwd, hky, Option.isNone_eq_false_iff.mpr hoc, Bool.and_false]
            exact pX_o (o' := (3, 0, M)) ((opT_0 zu0 hsu0 hi0 ht0).trans (if_neg (by rw [gm]; decide))) ⟨(show ¬ (3 : Nat) = 0 by decide), rfl, ⟨_, _, hR⟩, .rf⟩
        · refine jv_iconst (q := 59) (v := nI 1) G dX7_member_58 (by decide) rfl ?_
          refine jv_goto (q := 63) G dX7_member_59 (by decide) ?_
          refine jv_iload (q := 65) G 0 dX7_member_63 rfl rfl ?_
          refine jv_callV_I (q := 68) (h1 := h) (As := [.int (nI 1), .int (nI K)]) (rest := []) (ce' := 0 + 2 + 1) (sl' := 0 + 12 + 6) (r := jv_bI (m_has t0 true (some K))) G Z ml_X7_126 (k_has (w := true) (ko := (some K)) hlt Yt0 Vt0 Ot0 hK) (hEu0.2.1 i0 k10t0).1 dX7_member_65 rfl (by decide) (by decide) (by decide) (by decide) (Nat.le_of_ble_eq_true rfl) rfl rfl rfl rfl ?_
          refine jv_if_eqB (q := 71) (tgt := 81) G dX7_member_68 (by decide) rfl (fun c16 => ?_) (fun c16 => ?_)
          · refine jv_aload (q := 83) G 1 dX7_member_81 rfl rfl ?_
            refine jv_getI (q := 86) G dX7_member_83 fl_X7_132 rfl (hEu0.2.1 i0 k10t0).1 (ct_9 (hEu0.2.2.2.2.1 i0 t0 ht0).1) rfl ?_
            refine jv_bipush (q := 88) (v := nI 6) G dX7_member_86 (by decide) rfl ?_
            refine jv_icmp_ltN (q := 91) (tgt := 101) G dX7_member_88 (by decide) rfl (by omega) (by omega) (fun c17 => ?_) (fun c17 => ?_)
            · refine jv_aload (q := 103) G 1 dX7_member_101 rfl rfl ?_
              refine jv_iload_n (q := 104) G 5 dX7_member_103 rfl rfl rfl ?_
              refine jv_iload (q := 106) G 0 dX7_member_104 rfl rfl ?_
              refine jv_iload (q := 108) G 8 dX7_member_106 rfl rfl ?_
              refine jv_iload (q := 110) G 9 dX7_member_108 rfl rfl ?_
              refine jv_iload (q := 112) G 10 dX7_member_110 rfl rfl ?_
              have hoc := (has_oc (w := true) Ot0 e0.1 hK).symm.trans c16
              have hwd := decide_eq_true c10
              have gm : m_mbG t0 p2 p3 p4 p5 p6 p7 = true := by rw [mbG_eq Ot0, rk1, rk2, c9, hwd, hky, Option.isSome_eq_false_iff.mp hoc]; rfl
              obtain ⟨ok1, ok2⟩ := mb_keep Ot0 (by omega) e0 gm
              have ac4 : p5 = nI p5.toNatClampNeg := (rr_cl (n := 4) (by decide) (by have := c9; unfold c_cb at this; simp only [Bool.and_eq_true] at this; exact this.1.1.1.2)).1
              refine jv_callV (q := 115) (As := [.int p2, .int (nI K), .int p5, .int (jv_bI p6), .int p7]) (rest := []) G Z ml_X7_137 (k_addMember (n := p3) (s := p4) hlt Yt0 Vt0 Ot0 (by omega) K64 (by rw [eK, eka, ekb, nI_clamp (by omega), nI_clamp (by omega)]) ac4 oT.2.2.2.2.2) (hEu0.2.1 i0 k10t0).1 dX7_member_112 rfl (by decide) (by decide) (by decide) (by decide) (Nat.le_of_ble_eq_true rfl) rfl rfl (fun v19 h18 y20 => ?_) (fun _ _ hx => hx.elim)
              obtain ⟨rfl, hF9, hV9⟩ := y20
              show jv_V E 11 h18 (0 + 2 + 1) (0 + 12 + 6) (jv_Q E (pC z tO h (m_mb M (nI u0) p1 p2 p3 p4 p5 p6 p7)) (pX z tO h ["java/lang/IndexOutOfBoundsException", "java/lang/IllegalStateException", "java/lang/IllegalArgumentException", "java/lang/UnsupportedOperationException"] (m_mb M (nI u0) p1 p2 p3 p4 p5 p6 p7)) 4 24) 115 [(10, .int (nI K)), (9, .ref (T (10 * u0 + i0))), (0, .ref (z 6 0)), (1, .int (nI u0)), (2, .int p1), (3, .int p2), (4, .int p3), (5, .int p4), (6, .int p5), (7, .int (jv_bI p6)), (8, .int p7)] []
              refine jv_aload (q := 117) G 1 dX7_member_115 rfl rfl ?_
              refine jv_getI (q := 120) G dX7_member_117 fl_X7_132 rfl ((congrFun hF9.1 _).trans Yt0.1) (ct_9 hV9) rfl ?_
              refine jv_iret G hr dX7_member_120 (Nat.le_of_ble_eq_true rfl) (Nat.le_of_ble_eq_true rfl) ?_
              obtain ⟨hRn, sfn⟩ := hR.ty (N' := N) (t' := m_tM t0 (mt_m t0 ++ [m_mbN p2 p3 p4 p5 p6 p7])) hu0 hsu0 ht0 rfl ok1 hF9.G (fun b q => by rcases q with q | ⟨j, hj, q⟩; exact q ▸ oT.1; exact q ▸ oT.2.2.2.2.1 j hj) (fun _ _ _ => rfl) oT (hF9.t Yt0) hV9 ok2
              refine pC_o (o' := (0, nI ((mt_m t0).length + 1), m_put M u0 (false, (ma_t M u0).set i0 (m_tM t0 (mt_m t0 ++ [m_mbN p2 p3 p4 p5 p6 p7]))))) ((opT_0 zu0 hsu0 hi0 ht0).trans ((if_pos gm).trans (if_neg (by omega)))) ⟨rfl, ?_, ⟨_, _, hRn⟩, sfn⟩
              have el : (mt_m (m_tM t0 (mt_m t0 ++ [m_mbN p2 p3 p4 p5 p6 p7]))).length = (mt_m t0).length + 1 := by show (mt_m t0 ++ [m_mbN p2 p3 p4 p5 p6 p7]).length = _; rw [List.length_append, List.length_singleton]
              rw [el]
            · refine jv_throwS (text := "the type is full") G Z ht th_88 (by decide) (by decide) dX7_member_91 dX7_member_94 dX7_member_95 dX7_member_97 dX7_member_100 (Nat.le_of_ble_eq_true rfl) (by decide) (by decide) ?_
              have hoc := (has_oc (w := true) Ot0 e0.1 hK).symm.trans c16
              have hwd := decide_eq_true c10
              have gm : m_mbG t0 p2 p3 p4 p5 p6 p7 = true := by rw [mbG_eq Ot0, rk1, rk2, c9, hwd, hky, Option.isSome_eq_false_iff.mp hoc]; rfl
              exact pX_o (o' := (4, 0, M)) ((opT_0 zu0 hsu0 hi0 ht0).trans ((if_pos gm).trans (if_pos (by omega)))) ⟨(show ¬ (4 : Nat) = 0 by decide), rfl, ⟨_, _, hR⟩, .rf⟩
          · refine jv_throwS (text := "there is one already") G Z ht th_70 (by decide) (by decide) dX7_member_71 dX7_member_74 dX7_member_75 dX7_member_77 dX7_member_80 (Nat.le_of_ble_eq_true rfl) (by decide) (by decide) ?_
            have hoc := (has_oc (w := true) Ot0 e0.1 hK).symm.trans c16
            have hwd := decide_eq_true c10
            have gm : m_mbG t0 p2 p3 p4 p5 p6 p7 = false := by rw [mbG_eq Ot0, hwd, hky, Option.isNone_eq_false_iff.mpr hoc, Bool.and_false]
            exact pX_o (o' := (3, 0, M)) ((opT_0 zu0 hsu0 hi0 ht0).trans (if_neg (by rw [gm]; decide))) ⟨(show ¬ (3 : Nat) = 0 by decide), rfl, ⟨_, _, hR⟩, .rf⟩
      · refine jv_throwS (text := "a member cannot be so") G Z ht th_70 (by decide) (by decide) dX7_member_41 dX7_member_44 dX7_member_45 dX7_member_47 dX7_member_50 (Nat.le_of_ble_eq_true rfl) (by decide) (by decide) ?_
        have gm : m_mbG t0 p2 p3 p4 p5 p6 p7 = false := by rw [mbG_eq Ot0, c9, Bool.and_false, Bool.false_and]
        exact pX_o (o' := (3, 0, M)) ((opT_0 zu0 hsu0 hi0 ht0).trans (if_neg (by rw [gm]; decide))) ⟨(show ¬ (3 : Nat) = 0 by decide), rfl, ⟨_, _, hR⟩, .rf⟩
