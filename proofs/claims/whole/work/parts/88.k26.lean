def SD (z : Nat → Nat → Nat) (y : Nat) : Prop := y = z 6 3 ∨ ∃ k, 3 ≤ k ∧ k ≤ 7 ∧ y = z 7 k
def ck_D (z : Nat → Nat → Nat) (h : jv_H) (L : List mR) : Prop := ∀ (i : Nat) r, L[i]? = some r → jv_I h (z 7 3) i = nI r.1 ∧ jv_I h (z 7 4) i = nI r.2.1 ∧ jv_I h (z 7 5) i = jv_oN (r.2.2.1.map (fun K => K % 64)) ∧ jv_I h (z 7 6) i = jv_oN r.2.2.2 ∧ jv_I h (z 7 7) i = jv_bI (r.2.2.1.any (fun K => decide (64 ≤ K)))
theorem sd_no {z : Nat → Nat → Nat} {h : jv_H} (lk : cl_k z h) {b : Nat} {s : jv_S} (hs : jv_sh h b = some s) (n1 : s ≠ .inl 1) (n2 : s ≠ .inr (.int, 230)) (n3 : s ≠ .inr (.boolean, 230)) : ¬ SD z b := by
  rintro (q | ⟨k, h1, h2, q⟩)
  · rw [q, lk.1] at hs; exact n1 (Option.some.inj hs).symm
  · have hk : k = 3 ∨ k = 4 ∨ k = 5 ∨ k = 6 ∨ k = 7 := by omega
    rcases hk with rfl | rfl | rfl | rfl | rfl
    · rw [q, ck_s3 lk] at hs; exact n2 (Option.some.inj hs).symm
    · rw [q, ck_s4 lk] at hs; exact n2 (Option.some.inj hs).symm
    · rw [q, ck_s5 lk] at hs; exact n2 (Option.some.inj hs).symm
    · rw [q, ck_s6 lk] at hs; exact n2 (Option.some.inj hs).symm
    · rw [q, ck_s7 lk] at hs; exact n3 (Option.some.inj hs).symm
theorem sd_T {z : Nat → Nat → Nat} {N : Nat → Nat → Nat} {h h1 : jv_H} {a : Nat} {t : mT} (lk : cl_k z h) (f : cF (SD z) h h1) (tl : cl_t z N h a) (q : cv_T z N h a t) (qo : mt_ok t) : cv_T z N h1 a t := by
  have na := sd_no lk tl.1 (by intro q; cases q) (by intro q; cases q) (by intro q; cases q)
  have n8 := sd_no lk tl.2.2.1 (by intro q; cases q) (by intro q; cases q) (by intro q; cases q)
  refine ⟨(f.i na 0).trans q.1, (f.i na 1).trans q.2.1, (f.i na 2).trans q.2.2.1, (f.i na 3).trans q.2.2.2.1, (f.i na 4).trans q.2.2.2.2.1, (f.i na 5).trans q.2.2.2.2.2.1, (f.i na 7).trans q.2.2.2.2.2.2.1, (f.i na 9).trans q.2.2.2.2.2.2.2.1, (f.l na 10).trans q.2.2.2.2.2.2.2.2.1, (f.l na 11).trans q.2.2.2.2.2.2.2.2.2.1, fun j v y => (f.i n8 j).trans (ct_f q y), fun j m y => ?_⟩
  have hj : j < 6 := by have := jv_ltGet y; have := qo.2.2.2.2.2.1; omega
  exact f.M (sd_no lk (tl.2.2.2.2.2.2.2 j hj).2 (by intro q; cases q) (by intro q; cases q) (by intro q; cases q)) (ct_m q y)
theorem sd_M {z : Nat → Nat → Nat} {h h1 : jv_H} {b : Nat} {m : mM} (lk : cl_k z h) (f : cF (SD z) h h1) (hs : jv_sh h b = some (.inl 3)) (q : cv_M h b m) : cv_M h1 b m := f.M (sd_no lk hs (by intro q; cases q) (by intro q; cases q) (by intro q; cases q)) q
theorem sd_m {z : Nat → Nat → Nat} {h h1 : jv_H} {s : mS} (lk : cl_k z h) (f : cF (SD z) h h1) (r : ck_m z h s) : ck_m z h1 s := by
  have n8 := sd_no lk (ck_s8 lk) (by intro q; cases q) (by intro q; cases q) (by intro q; cases q)
  have n9 := sd_no lk (ck_s9 lk) (by intro q; cases q) (by intro q; cases q) (by intro q; cases q)
  refine ⟨fun K hK => (f.i n8 K).trans (r.1 K hK), fun q hq => ?_⟩
  obtain ⟨n, h1, h2⟩ := r.2 q hq
  exact ⟨n, (f.l n9 q).trans h1, h2⟩
/-- the list that is told -/
def dS (z : Nat → Nat → Nat) (h : jv_H) (s : mS) (L : List mR) : Prop := cl_k z h ∧ ck_m z h s ∧ ck_D z h L ∧ jv_I h (z 6 3) 0 = nI L.length
def dF (z : Nat → Nat → Nat) (h h' : jv_H) : Prop := cF (SD z) h h' ∧ ∀ j, j ≠ 0 → jv_I h' (z 6 3) j = jv_I h (z 6 3) j
theorem dF.rf {z : Nat → Nat → Nat} {h : jv_H} : dF z h h := ⟨cF.rf, fun _ _ => rfl⟩
theorem dF.tr {z : Nat → Nat → Nat} {h h1 h2 : jv_H} (a : dF z h h1) (b : dF z h1 h2) : dF z h h2 := ⟨a.1.tr b.1, fun j hj => (b.2 j hj).trans (a.2 j hj)⟩
set_option maxHeartbeats 4000000 in
set_option maxRecDepth 100000 in
theorem k_tell {lA : Launch} (hlt : lA.stackTraces = false) {D : jv_D} {base : Nat} {z : Nat → Nat → Nat} {h : jv_H} {s : mS} {L : List mR} (hdS : dS z h s L) (hL : L.length < 230) {num t : Nat} {w : Bool} {ko go : Option Nat} (hk : ∀ K, ko = some K → K < 64) (hw : ko = none → w = false) : jv_Met lA D base yX1_tell (.code yX1_tell cX1_tell 6 none) 1 0 0 [.ref (z 6 3), .int (nI num), .int (nI t), .int (jv_bI w), .int (jv_oN ko), .int (jv_oN go)] h (fun y h' => y = none ∧ dF z h h' ∧ dS z h' s (L ++ [(num, t, ko.map (wk w), go)])) jv_no := by
  refine jv_ofV (lo := [(0, .ref (z 6 3)), (1, .int (nI num)), (2, .int (nI t)), (3, .int (jv_bI w)), (4, .int (jv_oN ko)), (5, .int (jv_oN go))]) hlt (by decide) (Nat.le_of_ble_eq_true rfl) rfl (fun E hEl hEd hEz Z G hr ht hnm => ?_)
  subst hEl; subst hEd; subst hEz
  obtain ⟨lk, ck, hD, hc⟩ := hdS
  have n34 : z 7 3 ≠ z 7 4 := fun q => absurd (lk.2.2 3 4 (by decide) (by decide) (by decide) (by decide) q) (by decide)
  have n35 : z 7 3 ≠ z 7 5 := fun q => absurd (lk.2.2 3 5 (by decide) (by decide) (by decide) (by decide) q) (by decide)
  have n36 : z 7 3 ≠ z 7 6 := fun q => absurd (lk.2.2 3 6 (by decide) (by decide) (by decide) (by decide) q) (by decide)
  have n37 : z 7 3 ≠ z 7 7 := fun q => absurd (lk.2.2 3 7 (by decide) (by decide) (by decide) (by decide) q) (by decide)
  have n43 : z 7 4 ≠ z 7 3 := fun q => absurd (lk.2.2 4 3 (by decide) (by decide) (by decide) (by decide) q) (by decide)
  have n45 : z 7 4 ≠ z 7 5 := fun q => absurd (lk.2.2 4 5 (by decide) (by decide) (by decide) (by decide) q) (by decide)
  have n46 : z 7 4 ≠ z 7 6 := fun q => absurd (lk.2.2 4 6 (by decide) (by decide) (by decide) (by decide) q) (by decide)
  have n47 : z 7 4 ≠ z 7 7 := fun q => absurd (lk.2.2 4 7 (by decide) (by decide) (by decide) (by decide) q) (by decide)
  have n53 : z 7 5 ≠ z 7 3 := fun q => absurd (lk.2.2 5 3 (by decide) (by decide) (by decide) (by decide) q) (by decide)
  have n54 : z 7 5 ≠ z 7 4 := fun q => absurd (lk.2.2 5 4 (by decide) (by decide) (by decide) (by decide) q) (by decide)
  have n56 : z 7 5 ≠ z 7 6 := fun q => absurd (lk.2.2 5 6 (by decide) (by decide) (by decide) (by decide) q) (by decide)
  have n57 : z 7 5 ≠ z 7 7 := fun q => absurd (lk.2.2 5 7 (by decide) (by decide) (by decide) (by decide) q) (by decide)
  have n63 : z 7 6 ≠ z 7 3 := fun q => absurd (lk.2.2 6 3 (by decide) (by decide) (by decide) (by decide) q) (by decide)
  have n64 : z 7 6 ≠ z 7 4 := fun q => absurd (lk.2.2 6 4 (by decide) (by decide) (by decide) (by decide) q) (by decide)
  have n65 : z 7 6 ≠ z 7 5 := fun q => absurd (lk.2.2 6 5 (by decide) (by decide) (by decide) (by decide) q) (by decide)
  have n67 : z 7 6 ≠ z 7 7 := fun q => absurd (lk.2.2 6 7 (by decide) (by decide) (by decide) (by decide) q) (by decide)
  have n73 : z 7 7 ≠ z 7 3 := fun q => absurd (lk.2.2 7 3 (by decide) (by decide) (by decide) (by decide) q) (by decide)
  have n74 : z 7 7 ≠ z 7 4 := fun q => absurd (lk.2.2 7 4 (by decide) (by decide) (by decide) (by decide) q) (by decide)
  have n75 : z 7 7 ≠ z 7 5 := fun q => absurd (lk.2.2 7 5 (by decide) (by decide) (by decide) (by decide) q) (by decide)
  have n76 : z 7 7 ≠ z 7 6 := fun q => absurd (lk.2.2 7 6 (by decide) (by decide) (by decide) (by decide) q) (by decide)
  have m3 : z 7 3 ≠ z 6 3 := fun q => by have s1 := ck_s3 lk; rw [q, lk.1] at s1; cases s1
  have m4 : z 7 4 ≠ z 6 3 := fun q => by have s1 := ck_s4 lk; rw [q, lk.1] at s1; cases s1
  have m5 : z 7 5 ≠ z 6 3 := fun q => by have s1 := ck_s5 lk; rw [q, lk.1] at s1; cases s1
  have m6 : z 7 6 ≠ z 6 3 := fun q => by have s1 := ck_s6 lk; rw [q, lk.1] at s1; cases s1
  have m7 : z 7 7 ≠ z 6 3 := fun q => by have s1 := ck_s7 lk; rw [q, lk.1] at s1; cases s1
  refine jv_aload_n (q := 1) G 0 dX1_tell_0 rfl rfl rfl ?_
  refine jv_getI (q := 4) G dX1_tell_1 fl_X1_47 rfl lk.1 hc rfl ?_
  refine jv_sipush (q := 7) (v := nI 230) G dX1_tell_4 (by decide) rfl ?_
  refine jv_icmp_geN (q := 10) (tgt := 72) G dX1_tell_7 (by decide) rfl (by omega) (by omega) (fun c1 => ?_) (fun c1 => ?_)
  · omega
  · refine jv_aload_n (q := 11) G 0 dX1_tell_10 rfl rfl rfl ?_
    refine jv_getQ (q := 14) G dX1_tell_11 fl_X1_18 rfl lk.1 (ck_p lk 3 (by decide) (by decide)) rfl ?_
    refine jv_aload_n (q := 15) G 0 dX1_tell_14 rfl rfl rfl ?_
    refine jv_getI (q := 18) G dX1_tell_15 fl_X1_47 rfl lk.1 hc rfl ?_
    refine jv_iload_n (q := 19) G 1 dX1_tell_18 rfl rfl rfl ?_
    refine jv_iast (q := 20) G dX1_tell_19 (ck_s3 lk) rfl (by omega) (by decide) rfl ?_
    refine jv_aload_n (q := 21) G 0 dX1_tell_20 rfl rfl rfl ?_
    refine jv_getQ (q := 24) G dX1_tell_21 fl_X1_22 rfl lk.1 (ck_p lk 4 (by decide) (by decide)) rfl ?_
    refine jv_aload_n (q := 25) G 0 dX1_tell_24 rfl rfl rfl ?_
    refine jv_getI (q := 28) G dX1_tell_25 fl_X1_47 rfl lk.1 ((jv_I_wI _ _ _ _ _ _).trans ((if_neg (fun q => m3 q.1.symm)).trans hc)) rfl ?_
    refine jv_iload_n (q := 29) G 2 dX1_tell_28 rfl rfl rfl ?_
    refine jv_iast (q := 30) G dX1_tell_29 (ck_s4 lk) rfl (by omega) (by decide) rfl ?_
    refine jv_aload_n (q := 31) G 0 dX1_tell_30 rfl rfl rfl ?_
    refine jv_getQ (q := 34) G dX1_tell_31 fl_X1_31 rfl lk.1 (ck_p lk 7 (by decide) (by decide)) rfl ?_
    refine jv_aload_n (q := 35) G 0 dX1_tell_34 rfl rfl rfl ?_
    refine jv_getI (q := 38) G dX1_tell_35 fl_X1_47 rfl lk.1 ((jv_I_wI _ _ _ _ _ _).trans ((if_neg (fun q => m4 q.1.symm)).trans ((jv_I_wI _ _ _ _ _ _).trans ((if_neg (fun q => m3 q.1.symm)).trans hc)))) rfl ?_
    refine jv_iload_n (q := 39) G 3 dX1_tell_38 rfl rfl rfl ?_
    refine jv_zast (q := 40) G dX1_tell_39 (ck_s7 lk) rfl (by omega) (by decide) rfl ?_
    refine jv_aload_n (q := 41) G 0 dX1_tell_40 rfl rfl rfl ?_
    refine jv_getQ (q := 44) G dX1_tell_41 fl_X1_25 rfl lk.1 (ck_p lk 5 (by decide) (by decide)) rfl ?_
    refine jv_aload_n (q := 45) G 0 dX1_tell_44 rfl rfl rfl ?_
    refine jv_getI (q := 48) G dX1_tell_45 fl_X1_47 rfl lk.1 ((jv_I_wI _ _ _ _ _ _).trans ((if_neg (fun q => m7 q.1.symm)).trans ((jv_I_wI _ _ _ _ _ _).trans ((if_neg (fun q => m4 q.1.symm)).trans ((jv_I_wI _ _ _ _ _ _).trans ((if_neg (fun q => m3 q.1.symm)).trans hc)))))) rfl ?_
    refine jv_iload (q := 50) G 4 dX1_tell_48 rfl rfl ?_
    refine jv_iast (q := 51) G dX1_tell_50 (ck_s5 lk) rfl (by omega) (by decide) rfl ?_
    refine jv_aload_n (q := 52) G 0 dX1_tell_51 rfl rfl rfl ?_
    refine jv_getQ (q := 55) G dX1_tell_52 fl_X1_28 rfl lk.1 (ck_p lk 6 (by decide) (by decide)) rfl ?_
    refine jv_aload_n (q := 56) G 0 dX1_tell_55 rfl rfl rfl ?_
    refine jv_getI (q := 59) G dX1_tell_56 fl_X1_47 rfl lk.1 ((jv_I_wI _ _ _ _ _ _).trans ((if_neg (fun q => m5 q.1.symm)).trans ((jv_I_wI _ _ _ _ _ _).trans ((if_neg (fun q => m7 q.1.symm)).trans ((jv_I_wI _ _ _ _ _ _).trans ((if_neg (fun q => m4 q.1.symm)).trans ((jv_I_wI _ _ _ _ _ _).trans ((if_neg (fun q => m3 q.1.symm)).trans hc)))))))) rfl ?_
    refine jv_iload (q := 61) G 5 dX1_tell_59 rfl rfl ?_
    refine jv_iast (q := 62) G dX1_tell_61 (ck_s6 lk) rfl (by omega) (by decide) rfl ?_
    refine jv_aload_n (q := 63) G 0 dX1_tell_62 rfl rfl rfl ?_
    refine jv_dup (q := 64) G dX1_tell_63 rfl rfl ?_
    refine jv_getI (q := 67) G dX1_tell_64 fl_X1_47 rfl lk.1 ((jv_I_wI _ _ _ _ _ _).trans ((if_neg (fun q => m6 q.1.symm)).trans ((jv_I_wI _ _ _ _ _ _).trans ((if_neg (fun q => m5 q.1.symm)).trans ((jv_I_wI _ _ _ _ _ _).trans ((if_neg (fun q => m7 q.1.symm)).trans ((jv_I_wI _ _ _ _ _ _).trans ((if_neg (fun q => m4 q.1.symm)).trans ((jv_I_wI _ _ _ _ _ _).trans ((if_neg (fun q => m3 q.1.symm)).trans hc)))))))))) rfl ?_
    refine jv_iconst (q := 68) (v := nI 1) G dX1_tell_67 (by decide) rfl ?_
    refine jv_iaddN (q := 69) G dX1_tell_68 rfl ?_
    refine jv_putI (q := 72) G dX1_tell_69 fl_X1_47 rfl lk.1 rfl ?_
    refine jv_vret G hr dX1_tell_72 (Nat.le_of_ble_eq_true rfl) (Nat.le_of_ble_eq_true rfl) ?_
    have hF : cF (SD z) h (jv_wI (jv_wI (jv_wI (jv_wI (jv_wI (jv_wI h (z 7 3) L.length (nI num)) (z 7 4) L.length (nI t)) (z 7 7) L.length (jv_bI w)) (z 7 5) L.length (jv_oN ko)) (z 7 6) L.length (jv_oN go)) (z 6 3) 0 (nI (L.length + 1))) := (((((((cF.rf (S := (SD z))).wI (Or.inr ⟨3, by decide, by decide, rfl⟩) L.length (nI num)).wI (Or.inr ⟨4, by decide, by decide, rfl⟩) L.length (nI t)).wI (Or.inr ⟨7, by decide, by decide, rfl⟩) L.length (jv_bI w)).wI (Or.inr ⟨5, by decide, by decide, rfl⟩) L.length (jv_oN ko)).wI (Or.inr ⟨6, by decide, by decide, rfl⟩) L.length (jv_oN go)).wI (Or.inl rfl) 0 (nI (L.length + 1)))
    have g : ∀ k, 3 ≤ k → k ≤ 7 → ∀ j, j ≠ L.length → jv_I (jv_wI (jv_wI (jv_wI (jv_wI (jv_wI (jv_wI h (z 7 3) L.length (nI num)) (z 7 4) L.length (nI t)) (z 7 7) L.length (jv_bI w)) (z 7 5) L.length (jv_oN ko)) (z 7 6) L.length (jv_oN go)) (z 6 3) 0 (nI (L.length + 1))) (z 7 k) j = jv_I h (z 7 k) j := fun k h1 h2 j hj => by
      have hk5 : k = 3 ∨ k = 4 ∨ k = 5 ∨ k = 6 ∨ k = 7 := by omega
      rcases hk5 with rfl | rfl | rfl | rfl | rfl <;> simp [jv_I_wI, hj, n34, n35, n36, n37, n43, n45, n46, n47, n53, n54, n56, n57, n63, n64, n65, n67, n73, n74, n75, n76, m3, m4, m5, m6, m7, m3.symm, m4.symm, m5.symm, m6.symm, m7.symm]
    refine ⟨rfl, ⟨hF, fun j hj => ?_⟩, ck_L hF lk, sd_m lk hF ck, fun i r hi => ?_, ?_⟩
    · simp [jv_I_wI, hj, n34, n35, n36, n37, n43, n45, n46, n47, n53, n54, n56, n57, n63, n64, n65, n67, n73, n74, n75, n76, m3, m4, m5, m6, m7, m3.symm, m4.symm, m5.symm, m6.symm, m7.symm]
    · by_cases hil : i = L.length
      · subst hil
        rw [List.getElem?_append_right (Nat.le_refl _), Nat.sub_self] at hi
        cases hi
        refine ⟨?_, ?_, ?_, ?_, ?_⟩
        · simp [jv_I_wI, n34, n35, n36, n37, n43, n45, n46, n47, n53, n54, n56, n57, n63, n64, n65, n67, n73, n74, n75, n76, m3, m4, m5, m6, m7, m3.symm, m4.symm, m5.symm, m6.symm, m7.symm]
        · simp [jv_I_wI, n34, n35, n36, n37, n43, n45, n46, n47, n53, n54, n56, n57, n63, n64, n65, n67, n73, n74, n75, n76, m3, m4, m5, m6, m7, m3.symm, m4.symm, m5.symm, m6.symm, m7.symm]
        · show _ = jv_oN ((ko.map (wk w)).map (fun K => K % 64))
          have ek : (ko.map (wk w)).map (fun K => K % 64) = ko := by
            cases ko with
            | none => rfl
            | some K =>
              have := hk K rfl
              show some (wk w K % 64) = some K
              congr 1; unfold wk; split <;> omega
          rw [ek]
          simp [jv_I_wI, n34, n35, n36, n37, n43, n45, n46, n47, n53, n54, n56, n57, n63, n64, n65, n67, n73, n74, n75, n76, m3, m4, m5, m6, m7, m3.symm, m4.symm, m5.symm, m6.symm, m7.symm]
        · simp [jv_I_wI, n34, n35, n36, n37, n43, n45, n46, n47, n53, n54, n56, n57, n63, n64, n65, n67, n73, n74, n75, n76, m3, m4, m5, m6, m7, m3.symm, m4.symm, m5.symm, m6.symm, m7.symm]
        · show _ = jv_bI ((ko.map (wk w)).any (fun K => decide (64 ≤ K)))
          have ek : (ko.map (wk w)).any (fun K => decide (64 ≤ K)) = w := by
            cases ko with
            | none => rw [hw rfl]; rfl
            | some K =>
              have := hk K rfl
              show decide (64 ≤ wk w K) = w
              unfold wk
              cases w
              · simp; omega
              · simp
          rw [ek]
          simp [jv_I_wI, n34, n35, n36, n37, n43, n45, n46, n47, n53, n54, n56, n57, n63, n64, n65, n67, n73, n74, n75, n76, m3, m4, m5, m6, m7, m3.symm, m4.symm, m5.symm, m6.symm, m7.symm]
      · have h1 := jv_ltGet hi
        rw [List.length_append, List.length_singleton] at h1
        rw [List.getElem?_append_left (by omega)] at hi
        obtain ⟨a1, a2, a3, a4, a5⟩ := hD i r hi
        exact ⟨(g 3 (by decide) (by decide) i hil).trans a1, (g 4 (by decide) (by decide) i hil).trans a2, (g 5 (by decide) (by decide) i hil).trans a3, (g 6 (by decide) (by decide) i hil).trans a4, (g 7 (by decide) (by decide) i hil).trans a5⟩
    · rw [oI_o, if_pos rfl, List.length_append, List.length_singleton]
set_option maxHeartbeats 4000000 in
set_option maxRecDepth 100000 in
theorem k_tellOfType {lA : Launch} (hlt : lA.stackTraces = false) {D : jv_D} {base : Nat} {z : Nat → Nat → Nat} {h : jv_H} {s : mS} {L : List mR} (hdS : dS z h s L) (hL : L.length < 230) {num t a : Nat} (h5 : jv_sh h a = some (.inl 5)) (h0 : jv_I h a 0 = nI t) : jv_Met lA D base yX1_tellOfType (.code yX1_tellOfType cX1_tellOfType 3 none) 2 0 0 [.ref (z 6 3), .int (nI num), .ref a] h (fun y h' => y = none ∧ dF z h h' ∧ dS z h' s (L ++ [(num, t, none, none)])) jv_no := by
  refine jv_ofV (lo := [(0, .ref (z 6 3)), (1, .int (nI num)), (2, .ref a)]) hlt (by decide) (Nat.le_of_ble_eq_true rfl) rfl (fun E hEl hEd hEz Z G hr ht hnm => ?_)
  subst hEl; subst hEd; subst hEz
  refine jv_aload_n (q := 1) G 0 dX1_tellOfType_0 rfl rfl rfl ?_
  refine jv_iload_n (q := 2) G 1 dX1_tellOfType_1 rfl rfl rfl ?_
  refine jv_aload_n (q := 3) G 2 dX1_tellOfType_2 rfl rfl rfl ?_
  refine jv_getI (q := 6) G dX1_tellOfType_3 fl_X1_75 rfl h5 h0 rfl ?_
  refine jv_iconst (q := 7) (v := nI 0) G dX1_tellOfType_6 (by decide) rfl ?_
  refine jv_iconst (q := 8) (v := (-1)) G dX1_tellOfType_7 (by decide) rfl ?_
  refine jv_iconst (q := 9) (v := (-1)) G dX1_tellOfType_8 (by decide) rfl ?_
  refine jv_callV (q := 12) (As := [.int (nI num), .int (nI t), .int (nI 0), .int (-1), .int (-1)]) (rest := []) G Z ml_X1_130 (k_tell (w := false) (ko := none) (go := none) hlt hdS hL (fun K q => by cases q) (fun _ => rfl)) hdS.1.1 dX1_tellOfType_9 rfl (by decide) (by decide) (by decide) (by decide) (Nat.le_of_ble_eq_true rfl) rfl rfl (fun v2 h1 y3 => ?_) (fun _ _ hx => hx.elim)
  obtain ⟨rfl, hF, hd⟩ := y3
  show jv_V E 3 h1 0 0 (jv_Q E (fun y h' => y = none ∧ dF z h h' ∧ dS z h' s (L ++ [(num, t, none, none)])) jv_no 0 0) 12 [(0, .ref (z 6 3)), (1, .int (nI num)), (2, .ref a)] []
  refine jv_vret G hr dX1_tellOfType_12 (Nat.le_of_ble_eq_true rfl) (Nat.le_of_ble_eq_true rfl) ?_
  exact ⟨rfl, hF, hd⟩
