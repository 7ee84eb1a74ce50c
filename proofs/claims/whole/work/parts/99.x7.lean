section SL
variable {z : Nat → Nat → Nat} {T : Nat → Nat} {N N' : Nat → Nat → Nat} {tO : Nat → Nat} {h h1 : jv_H} {M : mA}
theorem fn_lt {p : mT → Bool} {ts : List mT} {n : Nat} (hb : ∀ t ∈ ts, mt_n t < 16) (h : m_fn p ts = some n) : n < 16 := by
  unfold m_fn at h
  obtain ⟨t, ht, e⟩ := Option.map_eq_some_iff.mp h
  rw [← e]
  exact hb t (List.mem_of_find?_eq_some ht)
theorem fn_no {p : mT → Bool} {ts : List mT} (h : m_fn p ts = none) : ∀ t ∈ ts, p t = false := fun t ht => by
  unfold m_fn at h
  have := List.find?_eq_none.mp (Option.map_eq_none_iff.mp h) t ht
  simpa using this
theorem find_cong {p q : mT → Bool} : ∀ {ts : List mT}, (∀ t ∈ ts, p t = q t) → ts.find? p = ts.find? q
  | [], _ => rfl
  | a :: ts, h => by
    rw [List.find?_cons, List.find?_cons, h a (by simp), find_cong (ts := ts) (fun t ht => h t (by simp [ht]))]
theorem fn_cong {p q : mT → Bool} {ts : List mT} (h : ∀ t ∈ ts, p t = q t) : m_fn p ts = m_fn q ts := by unfold m_fn; rw [find_cong h]
theorem sx_of {e : Nat} {ts : List mT} (hE : cv_E z T N h e ts) (hu : m_uq ts) (h1 : m_fn (fun t => !m_lr ts t) ts = none) : m_sx ts := by
  refine ⟨fun t ht => ?_, hu, hE.2.2.2.1, fun t ht => ?_⟩
  · obtain ⟨j, hj⟩ := List.getElem?_of_mem ht
    have h1 := (hE.2.2.2.2.1 j t hj).2
    exact ⟨h1.1, h1.2.2.2.2.1, fun u hu => (h1.2.2.1 u hu).1⟩
  · have := fn_no h1 t ht
    simpa using this
theorem fn_up {ts : List mT} (hs : m_sx ts) : m_fn (fun t => decide (mt_n t ∈ c_cl ts 11 [] t)) ts = m_fn (fun t => m_abv ts (mt_n t) (mt_n t)) ts := fn_cong (fun t ht => by
  obtain ⟨j, hj⟩ := List.getElem?_of_mem ht
  rw [Bool.eq_iff_iff, decide_eq_true_iff]
  exact us_iff hs hj)
theorem so_of {e : Nat} {ts : List mT} (hE : cv_E z T N h e ts) (hs : m_sx ts) (ho : ∀ t ∈ ts, m_uk t ∧ (mt_i t = true → mt_a t = true) ∧ m_kc t) (h2 : m_fn (fun t => m_abv ts (mt_n t) (mt_n t)) ts = none) : m_so ts := ⟨hs, fun t ht => by
  obtain ⟨j, hj⟩ := List.getElem?_of_mem ht
  exact ⟨(hE.2.2.2.2.1 j t hj).2, (ho t ht).1, (ho t ht).2.1⟩, fn_no h2⟩
theorem sa_1 {e : Int32} {k n : Nat} (hz : m_ix1 M.1.length e = some k) (hs : ma_s M k = false) (h1 : m_fn (fun t => !m_lr (ma_t M k) t) (ma_t M k) = some n) : m_sa M e = (0, nI n, M) := by unfold m_sa; rw [op_0 hz hs, h1]
theorem sa_2 {e : Int32} {k n : Nat} (hz : m_ix1 M.1.length e = some k) (hs : ma_s M k = false) (h1 : m_fn (fun t => !m_lr (ma_t M k) t) (ma_t M k) = none) (h2 : m_fn (fun t => m_abv (ma_t M k) (mt_n t) (mt_n t)) (ma_t M k) = some n) : m_sa M e = (0, nI n, M) := by unfold m_sa; rw [op_0 hz hs, h1]; dsimp only; rw [h2]
theorem sa_3 {e : Int32} {k : Nat} (hz : m_ix1 M.1.length e = some k) (hs : ma_s M k = false) (h1 : m_fn (fun t => !m_lr (ma_t M k) t) (ma_t M k) = none) (h2 : m_fn (fun t => m_abv (ma_t M k) (mt_n t) (mt_n t)) (ma_t M k) = none) : m_sa M e = (0, -1, m_put M k (true, ma_t M k)) := by unfold m_sa; rw [op_0 hz hs, h1]; dsimp only; rw [h2]
theorem uFs.G {e : Nat} (f : uFs z T e h h1) (oe : el_o z T N tO e) : cG (fun b => tO b = z 0 e ∨ ∃ k, k < 10 ∧ tO b = T (10 * e + k)) h h1 := ⟨f.1, fun b n => ⟨fun j => f.2.2.2 b j (fun k hk => ⟨fun q => n (Or.inr ⟨k, hk, by rw [q.1]; exact (oe.2.2.2.1 k hk).1⟩), fun q => n (Or.inr ⟨k, hk, by rw [q]; exact (oe.2.2.2.1 k hk).2.2.2.1⟩)⟩), fun j => f.2.2.1 b j, fun j => f.2.1 b j⟩⟩
theorem wI_ne {a b k j : Nat} {v : Int32} (n : b ≠ a) : jv_I (jv_wI h a k v) b j = jv_I h b j := (jv_I_wI ..).trans (if_neg (fun q => n q.1))
theorem uFs.i1 {e : Nat} {ts : List mT} (f : uFs z T e h h1) (hE : cv_E z T N h e ts) : jv_I h1 (z 0 e) 1 = jv_I h (z 0 e) 1 := by
  refine f.2.2.2 _ _ (fun k hk => ⟨fun q => ?_, fun q => ?_⟩)
  · omega
  · have := (hE.2.1 k hk).2.2.2.2.2.2.1
    rw [← q, hE.1.1] at this
    cases this
theorem cv_E.wS {e : Nat} {ts : List mT} {v : Int32} (oe : el_o z T N tO e) (r : cv_E z T N h e ts) : cv_E z T N (jv_wI h (z 0 e) 1 v) e ts := by
  obtain ⟨⟨r1, r2, r3, r4, r5, r6, r7⟩, r8, r9, r10, r11, r12⟩ := r
  have n5 : ∀ {b : Nat} {s : jv_S}, jv_sh h b = some s → s ≠ .inl 2 → ∀ j, jv_I (jv_wI h (z 0 e) 1 v) b j = jv_I h b j := fun {b s} hb n j => wI_ne (fun q => n (by rw [q, r1] at hb; exact (Option.some.inj hb).symm))
  refine ⟨⟨r1, r2, r3, r4, r5, (oI_o ..).trans ((if_neg (by decide)).trans r6), r7⟩, r8, (oI_o ..).trans ((if_neg (by decide)).trans r9), r10, fun k t ht => ?_, r12⟩
  obtain ⟨q, qo⟩ := r11 k t ht
  have hk : k < 10 := by have := jv_ltGet ht; omega
  have tl := r8 k hk
  have i5 := n5 tl.1 (by intro q; cases q)
  refine ⟨⟨(i5 0).trans q.1, (i5 1).trans q.2.1, (i5 2).trans q.2.2.1, (i5 3).trans q.2.2.2.1, (i5 4).trans q.2.2.2.2.1, (i5 5).trans q.2.2.2.2.2.1, (i5 7).trans q.2.2.2.2.2.2.1, (i5 9).trans q.2.2.2.2.2.2.2.1, q.2.2.2.2.2.2.2.2.1, q.2.2.2.2.2.2.2.2.2.1, fun j x y => (n5 tl.2.2.1 (by intro q; cases q) j).trans (ct_f q y), fun j m y => ?_⟩, qo⟩
  have hj : j < 6 := by have := jv_ltGet y; have := qo.2.2.2.2.2.1; omega
  have i3 := n5 (tl.2.2.2.2.2.2.2 j hj).2 (by intro q; cases q)
  have c := ct_m q y
  exact ⟨(i3 0).trans c.1, (i3 1).trans c.2.1, (i3 2).trans c.2.2.1, (i3 3).trans c.2.2.2.1, (i3 4).trans c.2.2.2.2.1, (i3 5).trans c.2.2.2.2.2⟩
theorem cv_Us.wS {e : Nat} {ts : List mT} {Us : Nat → List Nat} {v : Int32} (hE : cv_E z T N h e ts) (r : cv_Us z T h e ts Us) : cv_Us z T (jv_wI h (z 0 e) 1 v) e ts Us := fun k hk => by
  have tl := hE.2.1 k (by have := hE.2.2.2.1; omega)
  obtain ⟨⟨u1, u2, u3⟩, u4⟩ := r k hk
  have n5 : ∀ {b : Nat} {s : jv_S}, jv_sh h b = some s → s ≠ .inl 2 → ∀ j, jv_I (jv_wI h (z 0 e) 1 v) b j = jv_I h b j := fun {b s} hb n j => wI_ne (fun q => n (by rw [q, hE.1.1] at hb; exact (Option.some.inj hb).symm))
  have i5 := n5 tl.1 (by intro q; cases q)
  exact ⟨⟨(i5 13).trans u1, (i5 14).trans u2, fun j x y => (n5 tl.2.2.2.2.2.2.1 (by intro q; cases q) j).trans (u3 j x y)⟩, u4⟩
end SL
set_option maxHeartbeats 4000000 in
set_option maxRecDepth 100000 in
theorem k_seal {lA : Launch} (hlt : lA.stackTraces = false) {D : jv_D} {base : Nat} {z : Nat → Nat → Nat} {T : Nat → Nat} {N : Nat → Nat → Nat} {tO : Nat → Nat} {h : jv_H} {M : mA} (hR : cl_R z T N tO h M) {p0 : Int32} : jv_Met lA D base yX7_seal (.code yX7_seal cX7_seal 4 (some .int)) 27 2 12 [.ref (z 6 0), .int p0] h (pC z tO h (m_sa M p0)) (pX z tO h ["java/lang/IndexOutOfBoundsException", "java/lang/IllegalStateException"] (m_sa M p0)) := by
  refine jv_ofV (lo := [(0, .ref (z 6 0)), (1, .int p0)]) hlt (by decide) (Nat.le_of_ble_eq_true rfl) rfl (fun E hEl hEd hEz Z G hr ht hnm => ?_)
  subst hEl; subst hEd; subst hEz
  have hl8 := hR.1.2.1.2.1; have hl12 := hR.1.2.1.2.2.2
  refine jv_aload_n (q := 1) G 0 dX7_seal_0 rfl rfl rfl ?_
  refine jv_iload_n (q := 2) G 1 dX7_seal_1 rfl rfl rfl ?_
  refine jv_callV (q := 5) (As := [.int p0]) (rest := []) G Z ml_X7_59 (k_openEdition hlt hR) hR.1.1.1 dX7_seal_2 rfl (by decide) (by decide) (by decide) (by decide) (Nat.le_of_ble_eq_true rfl) rfl rfl (fun v2 h1 y3 => ?_) (fun cx hx yx => jv_out G ht (Nat.le_of_ble_eq_true rfl) (Nat.le_of_ble_eq_true rfl) (by obtain ⟨rfl, y1 | ⟨kq, y1, y2, y3⟩⟩ := yx; exact pX_o (o' := (1, 0, M)) (op_1 y1.1) ⟨(show ¬ (1 : Nat) = 0 by decide), y1.2, ⟨_, _, hR⟩, .rf⟩; exact pX_o (o' := (2, 0, M)) (op_2 y1 y2) ⟨(show ¬ (2 : Nat) = 0 by decide), y3, ⟨_, _, hR⟩, .rf⟩))
  obtain ⟨u0, hu0, rfl, zu0, hsu0, rfl, rfl⟩ := y3
  show jv_V E 4 h (0 + 2) (0 + 12) (jv_Q E (pC z tO h (m_sa M (nI u0))) (pX z tO h ["java/lang/IndexOutOfBoundsException", "java/lang/IllegalStateException"] (m_sa M (nI u0))) 2 12) 5 [(0, .ref (z 6 0)), (1, .int (nI u0))] [.ref (z 0 u0)]
  have q8u0 : u0 < 8 := by omega
  have hEu0 := (hR.1.2.2.1 u0 q8u0).1; have oeu0 := (hR.1.2.2.1 u0 q8u0).2.1; have eou0 := hR.1.2.2.2 u0 q8u0; have ltu0 : (ma_t M u0).length ≤ 10 := hEu0.2.2.2.1
  refine jv_astore_n (q := 6) (lo' := [(2, .ref (z 0 u0)), (0, .ref (z 6 0)), (1, .int (nI u0))]) G dX7_seal_5 rfl (by decide) rfl rfl ?_
  refine jv_aload_n (q := 7) G 0 dX7_seal_6 rfl rfl rfl ?_
  refine jv_callV_I (q := 10) (h1 := h) (As := []) (rest := []) (ce' := 0 + 2) (sl' := 0 + 12) (r := jv_oN (m_fn (fun t => !m_lr (ma_t M u0) t) (ma_t M u0))) G Z ml_X7_148 (k_firstWrong hlt hEu0) hEu0.1.1 dX7_seal_7 rfl (by decide) (by decide) (by decide) (by decide) (Nat.le_of_ble_eq_true rfl) rfl rfl rfl rfl ?_
  rcases Option.eq_none_or_eq_some (m_fn (fun t => !m_lr (ma_t M u0) t) (ma_t M u0)) with fnw | ⟨nw, fnw⟩
  · refine jv_topI (y := (-1)) (by rw [fnw]; rfl) ?_
    have sx := sx_of hEu0 eou0.1 fnw
    refine jv_istore_n (q := 11) (lo' := [(3, .int (-1)), (2, .ref (z 0 u0)), (0, .ref (z 6 0)), (1, .int (nI u0))]) G dX7_seal_10 rfl (by decide) rfl rfl ?_
    refine jv_iload_n (q := 12) G 0 dX7_seal_11 rfl rfl rfl ?_
    refine jv_iconst (q := 13) (v := (-1)) G dX7_seal_12 (by decide) rfl ?_
    refine jv_icmp_ne (q := 16) (tgt := 21) G dX7_seal_13 (by decide) rfl (fun c4 => ?_) (fun c4 => ?_)
    · exact absurd rfl c4
    · refine jv_aload_n (q := 17) G 1 dX7_seal_16 rfl rfl rfl ?_
      refine jv_callV (q := 20) (As := []) (rest := []) G Z ml_X7_152 (k_firstAbove hlt hEu0 oeu0) hEu0.1.1 dX7_seal_17 rfl (by decide) (by decide) (by decide) (by decide) (Nat.le_of_ble_eq_true rfl) rfl rfl (fun v6 h5 y7 => ?_) (fun _ _ hx => hx.elim)
      obtain ⟨rfl, hU9, hE9, hs9⟩ := y7
      show jv_V E 4 h5 (0 + 2) (0 + 12) (jv_Q E (pC z tO h (m_sa M (nI u0))) (pX z tO h ["java/lang/IndexOutOfBoundsException", "java/lang/IllegalStateException"] (m_sa M (nI u0))) 2 12) 20 [(3, .int (-1)), (2, .ref (z 0 u0)), (0, .ref (z 6 0)), (1, .int (nI u0))] [.int (jv_oN (m_fn (fun t => decide (mt_n t ∈ c_cl (ma_t M u0) 11 [] t)) (ma_t M u0)))]
      have hup := fn_up sx
      rcases Option.eq_none_or_eq_some (m_fn (fun t => decide (mt_n t ∈ c_cl (ma_t M u0) 11 [] t)) (ma_t M u0)) with fna | ⟨na, fna⟩
      · refine jv_topI (y := (-1)) (by rw [fna]; rfl) ?_
        refine jv_istore_n (q := 21) (lo' := [(3, .int (-1)), (2, .ref (z 0 u0)), (0, .ref (z 6 0)), (1, .int (nI u0))]) G dX7_seal_20 rfl (by decide) rfl rfl ?_
        refine jv_iload_n (q := 22) G 0 dX7_seal_21 rfl rfl rfl ?_
        refine jv_iconst (q := 23) (v := (-1)) G dX7_seal_22 (by decide) rfl ?_
        refine jv_icmp_ne (q := 26) (tgt := 31) G dX7_seal_23 (by decide) rfl (fun c8 => ?_) (fun c8 => ?_)
        · exact absurd rfl c8
        · refine jv_aload_n (q := 27) G 1 dX7_seal_26 rfl rfl rfl ?_
          refine jv_iconst (q := 28) (v := nI 1) G dX7_seal_27 (by decide) rfl ?_
          refine jv_topI (y := jv_bI true) rfl ?_
          refine jv_putZ (q := 31) G dX7_seal_28 fl_X7_155 rfl hE9.1.1 rfl ?_
          refine jv_iload_n (q := 32) G 0 dX7_seal_31 rfl rfl rfl ?_
          refine jv_iret G hr dX7_seal_32 (Nat.le_of_ble_eq_true rfl) (Nat.le_of_ble_eq_true rfl) ?_
          have so9 := so_of hEu0 sx eou0.2.1 (hup.symm.trans fna)
          obtain ⟨hRn, sfn⟩ := hR.ed (T' := T) (N' := N) (s := true) hu0 hsu0 ((hU9.G oeu0).wI (b := z 0 u0) (Or.inl oeu0.1) 1 _) (fun _ _ _ => rfl) (fun _ _ _ _ => rfl) hR.2.2.2.2.2.2.1 oeu0 (hE9.wS oeu0) (jv_I_self _ _ _ _) (fun _ => cv_Us.wS hE9 hs9) ⟨eou0.1, eou0.2.1, fun _ => so9⟩
          exact pC_o (o' := (0, -1, m_put M u0 (true, ma_t M u0))) (sa_3 zu0 hsu0 fnw (hup.symm.trans fna)) ⟨rfl, rfl, ⟨_, _, hRn⟩, sfn⟩
      · refine jv_topI (y := nI na) (by rw [fna]; rfl) ?_
        have na16 := fn_lt hEu0.n16 fna
        refine jv_istore_n (q := 21) (lo' := [(3, .int (nI na)), (2, .ref (z 0 u0)), (0, .ref (z 6 0)), (1, .int (nI u0))]) G dX7_seal_20 rfl (by decide) rfl rfl ?_
        refine jv_iload_n (q := 22) G 0 dX7_seal_21 rfl rfl rfl ?_
        refine jv_iconst (q := 23) (v := (-1)) G dX7_seal_22 (by decide) rfl ?_
        refine jv_icmp_ne (q := 26) (tgt := 31) G dX7_seal_23 (by decide) rfl (fun c9 => ?_) (fun c9 => ?_)
        · refine jv_iload_n (q := 32) G 0 dX7_seal_31 rfl rfl rfl ?_
          refine jv_iret G hr dX7_seal_32 (Nat.le_of_ble_eq_true rfl) (Nat.le_of_ble_eq_true rfl) ?_
          obtain ⟨hRn, sfn⟩ := hR.ed (T' := T) (N' := N) (s := false) hu0 hsu0 (hU9.G oeu0) (fun _ _ _ => rfl) (fun _ _ _ _ => rfl) hR.2.2.2.2.2.2.1 oeu0 hE9 ((hU9.i1 hEu0).trans ((hR.1.2.2.1 u0 q8u0).2.2.1.trans (by rw [hsu0]))) (fun q => by cases q) ⟨eou0.1, eou0.2.1, fun q => by cases q⟩
          rw [m_put_same hu0 hsu0] at hRn
          exact pC_o (o' := (0, nI na, M)) (sa_2 zu0 hsu0 fnw (hup.symm.trans fna)) ⟨rfl, rfl, ⟨_, _, hRn⟩, sfn⟩
        · exact absurd c9 (jv_nI_m1 (by omega))
  · refine jv_topI (y := nI nw) (by rw [fnw]; rfl) ?_
    have nw16 := fn_lt hEu0.n16 fnw
    refine jv_istore_n (q := 11) (lo' := [(3, .int (nI nw)), (2, .ref (z 0 u0)), (0, .ref (z 6 0)), (1, .int (nI u0))]) G dX7_seal_10 rfl (by decide) rfl rfl ?_
    refine jv_iload_n (q := 12) G 0 dX7_seal_11 rfl rfl rfl ?_
    refine jv_iconst (q := 13) (v := (-1)) G dX7_seal_12 (by decide) rfl ?_
    refine jv_icmp_ne (q := 16) (tgt := 21) G dX7_seal_13 (by decide) rfl (fun c10 => ?_) (fun c10 => ?_)
    · refine jv_iload_n (q := 22) G 0 dX7_seal_21 rfl rfl rfl ?_
      refine jv_iconst (q := 23) (v := (-1)) G dX7_seal_22 (by decide) rfl ?_
      refine jv_icmp_ne (q := 26) (tgt := 31) G dX7_seal_23 (by decide) rfl (fun c11 => ?_) (fun c11 => ?_)
      · refine jv_iload_n (q := 32) G 0 dX7_seal_31 rfl rfl rfl ?_
        refine jv_iret G hr dX7_seal_32 (Nat.le_of_ble_eq_true rfl) (Nat.le_of_ble_eq_true rfl) ?_
        exact pC_o (o' := (0, nI nw, M)) (sa_1 zu0 hsu0 fnw) ⟨rfl, rfl, ⟨_, _, hR⟩, .rf⟩
      · exact absurd c11 (jv_nI_m1 (by omega))
    · exact absurd c10 (jv_nI_m1 (by omega))
