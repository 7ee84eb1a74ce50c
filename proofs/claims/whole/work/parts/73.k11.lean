/-! what a method of the class may change: addresses -/
def smA (b : Nat) (h h' : jv_H) : Prop := (∀ j, jv_I h' b j = jv_I h b j) ∧ (∀ j, jv_L h' b j = jv_L h b j) ∧ ∀ j, jv_P h' b j = jv_P h b j
def cF (S : Nat → Prop) (h h' : jv_H) : Prop := jv_sh h' = jv_sh h ∧ (∀ b j, jv_P h' b j = jv_P h b j) ∧ ∀ b, ¬ S b → (∀ j, jv_I h' b j = jv_I h b j) ∧ ∀ j, jv_L h' b j = jv_L h b j
/-- references too -/
def cG (S : Nat → Prop) (h h' : jv_H) : Prop := jv_sh h' = jv_sh h ∧ ∀ b, ¬ S b → smA b h h'
section CF
variable {S S' : Nat → Prop} {h h1 h2 : jv_H}
theorem cF.i (a : cF S h h1) {b : Nat} (n : ¬ S b) (j : Nat) : jv_I h1 b j = jv_I h b j := (a.2.2 b n).1 j
theorem cF.l (a : cF S h h1) {b : Nat} (n : ¬ S b) (j : Nat) : jv_L h1 b j = jv_L h b j := (a.2.2 b n).2 j
theorem cF.p (a : cF S h h1) (b j : Nat) : jv_P h1 b j = jv_P h b j := a.2.1 b j
theorem cF.rf : cF S h h := ⟨rfl, fun _ _ => rfl, fun _ _ => ⟨fun _ => rfl, fun _ => rfl⟩⟩
theorem cF.tr (a : cF S h h1) (b : cF S h1 h2) : cF S h h2 := ⟨b.1.trans a.1, fun c j => (b.2.1 c j).trans (a.2.1 c j), fun c n => ⟨fun j => (b.i n j).trans (a.i n j), fun j => (b.l n j).trans (a.l n j)⟩⟩
theorem cF.mono (a : cF S h h1) (hs : ∀ b, S b → S' b) : cF S' h h1 := ⟨a.1, a.2.1, fun c n => a.2.2 c (fun z => n (hs c z))⟩
theorem cF.wI (a : cF S h h1) {b : Nat} (hb : S b) (k : Nat) (v : Int32) : cF S h (jv_wI h1 b k v) := ⟨a.1, a.2.1, fun c n => ⟨fun j => by rw [jv_I_wI, if_neg (fun e => n (by rw [e.1]; exact hb))]; exact a.i n j, fun j => a.l n j⟩⟩
theorem cF.wL (a : cF S h h1) {b : Nat} (hb : S b) (k : Nat) (v : Int64) : cF S h (jv_wL h1 b k v) := ⟨a.1, a.2.1, fun c n => ⟨fun j => a.i n j, fun j => by rw [jv_L_wL, if_neg (fun e => n (by rw [e.1]; exact hb))]; exact a.l n j⟩⟩
theorem cF.M (a : cF S h h1) {b : Nat} (n : ¬ S b) {m : mM} (r : cv_M h b m) : cv_M h1 b m := ⟨(a.i n 0).trans r.1, (a.i n 1).trans r.2.1, (a.i n 2).trans r.2.2.1, (a.i n 3).trans r.2.2.2.1, (a.i n 4).trans r.2.2.2.2.1, (a.i n 5).trans r.2.2.2.2.2⟩
theorem cF.t (f : cF S h h1) {z : Nat → Nat → Nat} {N : Nat → Nat → Nat} {a : Nat} (r : cl_t z N h a) : cl_t z N h1 a := by
  obtain ⟨r1, r2, r3, r4, r5, r6, r7, r8⟩ := r
  exact ⟨(congrFun f.1 a).trans r1, (f.p a 6).trans r2, (congrFun f.1 _).trans r3, (f.p a 8).trans r4, (congrFun f.1 _).trans r5, (f.p a 12).trans r6, (congrFun f.1 _).trans r7, fun j hj => ⟨(f.p _ j).trans (r8 j hj).1, (congrFun f.1 _).trans (r8 j hj).2⟩⟩
theorem cG.i (a : cG S h h1) {b : Nat} (n : ¬ S b) (j : Nat) : jv_I h1 b j = jv_I h b j := (a.2 b n).1 j
theorem cG.l (a : cG S h h1) {b : Nat} (n : ¬ S b) (j : Nat) : jv_L h1 b j = jv_L h b j := (a.2 b n).2.1 j
theorem cG.p (a : cG S h h1) {b : Nat} (n : ¬ S b) (j : Nat) : jv_P h1 b j = jv_P h b j := (a.2 b n).2.2 j
theorem cG.rf : cG S h h := ⟨rfl, fun _ _ => ⟨fun _ => rfl, fun _ => rfl, fun _ => rfl⟩⟩
theorem cG.tr (a : cG S h h1) (b : cG S h1 h2) : cG S h h2 := ⟨b.1.trans a.1, fun c n => ⟨fun j => (b.i n j).trans (a.i n j), fun j => (b.l n j).trans (a.l n j), fun j => (b.p n j).trans (a.p n j)⟩⟩
theorem cG.mono (a : cG S h h1) (hs : ∀ b, S b → S' b) : cG S' h h1 := ⟨a.1, fun c n => a.2 c (fun z => n (hs c z))⟩
theorem cF.G (a : cF S h h1) : cG S h h1 := ⟨a.1, fun c n => ⟨fun j => a.i n j, fun j => a.l n j, fun j => a.p c j⟩⟩
theorem cG.wI (a : cG S h h1) {b : Nat} (hb : S b) (k : Nat) (v : Int32) : cG S h (jv_wI h1 b k v) := a.tr (cF.rf.wI hb k v).G
theorem cG.wP (a : cG S h h1) {b : Nat} (hb : S b) (k : Nat) (v : Option Nat) : cG S h (jv_wP h1 b k v) := ⟨a.1, fun c n => ⟨fun j => a.i n j, fun j => a.l n j, fun j => by rw [jv_P_wP, if_neg (fun e => n (by rw [e.1]; exact hb))]; exact a.p n j⟩⟩
theorem cG.M (a : cG S h h1) {b : Nat} (n : ¬ S b) {m : mM} (r : cv_M h b m) : cv_M h1 b m := ⟨(a.i n 0).trans r.1, (a.i n 1).trans r.2.1, (a.i n 2).trans r.2.2.1, (a.i n 3).trans r.2.2.2.1, (a.i n 4).trans r.2.2.2.2.1, (a.i n 5).trans r.2.2.2.2.2⟩
end CF
theorem oI_o (h : jv_H) (a k k' : Nat) (v : Int32) : jv_I (jv_wI h a k' v) a k = if k = k' then v else jv_I h a k := by
  rw [jv_I_wI]
  by_cases e : k = k'
  · rw [if_pos ⟨rfl, e⟩, if_pos e]
  · rw [if_neg (fun z => e z.2), if_neg e]
theorem oL_o (h : jv_H) (a k k' : Nat) (v : Int64) : jv_L (jv_wL h a k' v) a k = if k = k' then v else jv_L h a k := by
  rw [jv_L_wL]
  by_cases e : k = k'
  · rw [if_pos ⟨rfl, e⟩, if_pos e]
  · rw [if_neg (fun z => e z.2), if_neg e]
/-- a type's addresses: t0 says whose they are -/
def cl_o (z : Nat → Nat → Nat) (N : Nat → Nat → Nat) (tO : Nat → Nat) (a : Nat) : Prop := tO a = a ∧ tO (z 8 a) = a ∧ tO (z 9 a) = a ∧ tO (z 10 a) = a ∧ (∀ j, j < 6 → tO (N a j) = a) ∧ ∀ i j, i < 6 → j < 6 → N a i = N a j → i = j
theorem lN_shl : ∀ k, k < 64 → (1 : Int64) <<< ((nI k).toInt64 &&& 63) = lN (2 ^ k) := by decide +kernel
theorem ks_snoc {w : Bool} {l : List mM} {m : mM} : m_ks w (l ++ [m]) = m_ks w l ^^^ (if mm_w m = w then 2 ^ (4 * mm_n m + mm_s m) else 0) := by
  induction l with
  | nil => show (_ ^^^ 0) = (0 ^^^ _); rw [Nat.xor_zero, Nat.zero_xor]
  | cons y l ih => show (_ ^^^ m_ks w (l ++ [m])) = _; rw [ih, m_ks, Nat.xor_assoc]
set_option maxHeartbeats 4000000 in
set_option maxRecDepth 100000 in
theorem k_mBegin {lA : Launch} (hlt : lA.stackTraces = false) {D : jv_D} {base : Nat} {h : jv_H} {b : Nat} {w k ac bd : Int32} {st : Bool} (hb : jv_sh h b = some (.inl 3)) : jv_Met lA D base yX3_begin (.code yX3_begin cX3_begin 6 none) 1 0 0 [.ref b, .int w, .int k, .int ac, .int (jv_bI st), .int bd] h (fun v h' => v = none ∧ cF (fun c => c = b) h h' ∧ jv_I h' b 0 = jv_bI (decide (w = nI 1)) ∧ jv_I h' b 1 = jv_bI (decide (w = nI 2)) ∧ jv_I h' b 2 = jv_bI st ∧ jv_I h' b 3 = k ∧ jv_I h' b 4 = ac ∧ jv_I h' b 5 = bd) jv_no := by
  refine jv_ofV (lo := [(0, .ref b), (1, .int w), (2, .int k), (3, .int ac), (4, .int (jv_bI st)), (5, .int bd)]) hlt (by decide) (Nat.le_of_ble_eq_true rfl) rfl (fun E hEl hEd hEz Z G hr ht hnm => ?_)
  subst hEl; subst hEd; subst hEz
  refine jv_aload_n (q := 1) G 0 dX3_begin_0 rfl rfl rfl ?_
  refine jv_iload_n (q := 2) G 1 dX3_begin_1 rfl rfl rfl ?_
  refine jv_iconst (q := 3) (v := nI 1) G dX3_begin_2 (by decide) rfl ?_
  refine jv_icmp_ne (q := 6) (tgt := 10) G dX3_begin_3 (by decide) rfl (fun c1 => ?_) (fun c1 => ?_)
  · refine jv_iconst (q := 11) (v := nI 0) G dX3_begin_10 (by decide) rfl ?_
    refine jv_topI (y := jv_bI false) rfl ?_
    refine jv_putZ (q := 14) G dX3_begin_11 fl_X3_9 rfl hb rfl ?_
    refine jv_aload_n (q := 15) G 0 dX3_begin_14 rfl rfl rfl ?_
    refine jv_iload_n (q := 16) G 1 dX3_begin_15 rfl rfl rfl ?_
    refine jv_iconst (q := 17) (v := nI 2) G dX3_begin_16 (by decide) rfl ?_
    refine jv_icmp_ne (q := 20) (tgt := 24) G dX3_begin_17 (by decide) rfl (fun c2 => ?_) (fun c2 => ?_)
    · refine jv_iconst (q := 25) (v := nI 0) G dX3_begin_24 (by decide) rfl ?_
      refine jv_topI (y := jv_bI false) rfl ?_
      refine jv_putZ (q := 28) G dX3_begin_25 fl_X3_15 rfl hb rfl ?_
      refine jv_aload_n (q := 29) G 0 dX3_begin_28 rfl rfl rfl ?_
      refine jv_iload_n (q := 30) G 2 dX3_begin_29 rfl rfl rfl ?_
      refine jv_putI (q := 33) G dX3_begin_30 fl_X3_18 rfl hb rfl ?_
      refine jv_aload_n (q := 34) G 0 dX3_begin_33 rfl rfl rfl ?_
      refine jv_iload_n (q := 35) G 3 dX3_begin_34 rfl rfl rfl ?_
      refine jv_putI (q := 38) G dX3_begin_35 fl_X3_22 rfl hb rfl ?_
      refine jv_aload_n (q := 39) G 0 dX3_begin_38 rfl rfl rfl ?_
      refine jv_iload (q := 41) G 4 dX3_begin_39 rfl rfl ?_
      refine jv_putZ (q := 44) G dX3_begin_41 fl_X3_25 rfl hb rfl ?_
      refine jv_aload_n (q := 45) G 0 dX3_begin_44 rfl rfl rfl ?_
      refine jv_iload (q := 47) G 5 dX3_begin_45 rfl rfl ?_
      refine jv_putI (q := 50) G dX3_begin_47 fl_X3_28 rfl hb rfl ?_
      refine jv_vret G hr dX3_begin_50 (Nat.le_of_ble_eq_true rfl) (Nat.le_of_ble_eq_true rfl) ?_
      refine ⟨rfl, show cF (fun c => c = b) h (jv_wI (jv_wI (jv_wI (jv_wI (jv_wI (jv_wI h b 0 (jv_bI false)) b 1 (jv_bI false)) b 3 k) b 4 ac) b 2 (jv_bI st)) b 5 bd) from (((((((cF.rf (S := (fun c => c = b))).wI rfl 0 (jv_bI false)).wI rfl 1 (jv_bI false)).wI rfl 3 k).wI rfl 4 ac).wI rfl 2 (jv_bI st)).wI rfl 5 bd), ?_, ?_, ?_, ?_, ?_, ?_⟩
      · show jv_I (jv_wI (jv_wI (jv_wI (jv_wI (jv_wI (jv_wI h b 0 (jv_bI false)) b 1 (jv_bI false)) b 3 k) b 4 ac) b 2 (jv_bI st)) b 5 bd) b 0 = jv_bI (decide (w = nI 1))
        first | (simp [oI_o, c1, c2, nI_12, nI_21]; done) | exact absurd (c1.symm.trans c2) (by decide)
      · show jv_I (jv_wI (jv_wI (jv_wI (jv_wI (jv_wI (jv_wI h b 0 (jv_bI false)) b 1 (jv_bI false)) b 3 k) b 4 ac) b 2 (jv_bI st)) b 5 bd) b 1 = jv_bI (decide (w = nI 2))
        first | (simp [oI_o, c1, c2, nI_12, nI_21]; done) | exact absurd (c1.symm.trans c2) (by decide)
      · show jv_I (jv_wI (jv_wI (jv_wI (jv_wI (jv_wI (jv_wI h b 0 (jv_bI false)) b 1 (jv_bI false)) b 3 k) b 4 ac) b 2 (jv_bI st)) b 5 bd) b 2 = jv_bI st
        first | (simp [oI_o, c1, c2, nI_12, nI_21]; done) | exact absurd (c1.symm.trans c2) (by decide)
      · show jv_I (jv_wI (jv_wI (jv_wI (jv_wI (jv_wI (jv_wI h b 0 (jv_bI false)) b 1 (jv_bI false)) b 3 k) b 4 ac) b 2 (jv_bI st)) b 5 bd) b 3 = k
        first | (simp [oI_o, c1, c2, nI_12, nI_21]; done) | exact absurd (c1.symm.trans c2) (by decide)
      · show jv_I (jv_wI (jv_wI (jv_wI (jv_wI (jv_wI (jv_wI h b 0 (jv_bI false)) b 1 (jv_bI false)) b 3 k) b 4 ac) b 2 (jv_bI st)) b 5 bd) b 4 = ac
        first | (simp [oI_o, c1, c2, nI_12, nI_21]; done) | exact absurd (c1.symm.trans c2) (by decide)
      · show jv_I (jv_wI (jv_wI (jv_wI (jv_wI (jv_wI (jv_wI h b 0 (jv_bI false)) b 1 (jv_bI false)) b 3 k) b 4 ac) b 2 (jv_bI st)) b 5 bd) b 5 = bd
        first | (simp [oI_o, c1, c2, nI_12, nI_21]; done) | exact absurd (c1.symm.trans c2) (by decide)
    · refine jv_iconst (q := 21) (v := nI 1) G dX3_begin_20 (by decide) rfl ?_
      refine jv_goto (q := 25) G dX3_begin_21 (by decide) ?_
      refine jv_topI (y := jv_bI true) rfl ?_
      refine jv_putZ (q := 28) G dX3_begin_25 fl_X3_15 rfl hb rfl ?_
      refine jv_aload_n (q := 29) G 0 dX3_begin_28 rfl rfl rfl ?_
      refine jv_iload_n (q := 30) G 2 dX3_begin_29 rfl rfl rfl ?_
      refine jv_putI (q := 33) G dX3_begin_30 fl_X3_18 rfl hb rfl ?_
      refine jv_aload_n (q := 34) G 0 dX3_begin_33 rfl rfl rfl ?_
      refine jv_iload_n (q := 35) G 3 dX3_begin_34 rfl rfl rfl ?_
      refine jv_putI (q := 38) G dX3_begin_35 fl_X3_22 rfl hb rfl ?_
      refine jv_aload_n (q := 39) G 0 dX3_begin_38 rfl rfl rfl ?_
      refine jv_iload (q := 41) G 4 dX3_begin_39 rfl rfl ?_
      refine jv_putZ (q := 44) G dX3_begin_41 fl_X3_25 rfl hb rfl ?_
      refine jv_aload_n (q := 45) G 0 dX3_begin_44 rfl rfl rfl ?_
      refine jv_iload (q := 47) G 5 dX3_begin_45 rfl rfl ?_
      refine jv_putI (q := 50) G dX3_begin_47 fl_X3_28 rfl hb rfl ?_
      refine jv_vret G hr dX3_begin_50 (Nat.le_of_ble_eq_true rfl) (Nat.le_of_ble_eq_true rfl) ?_
      refine ⟨rfl, show cF (fun c => c = b) h (jv_wI (jv_wI (jv_wI (jv_wI (jv_wI (jv_wI h b 0 (jv_bI false)) b 1 (jv_bI true)) b 3 k) b 4 ac) b 2 (jv_bI st)) b 5 bd) from (((((((cF.rf (S := (fun c => c = b))).wI rfl 0 (jv_bI false)).wI rfl 1 (jv_bI true)).wI rfl 3 k).wI rfl 4 ac).wI rfl 2 (jv_bI st)).wI rfl 5 bd), ?_, ?_, ?_, ?_, ?_, ?_⟩
      · show jv_I (jv_wI (jv_wI (jv_wI (jv_wI (jv_wI (jv_wI h b 0 (jv_bI false)) b 1 (jv_bI true)) b 3 k) b 4 ac) b 2 (jv_bI st)) b 5 bd) b 0 = jv_bI (decide (w = nI 1))
        first | (simp [oI_o, c1, c2, nI_12, nI_21]; done) | exact absurd (c1.symm.trans c2) (by decide)
      · show jv_I (jv_wI (jv_wI (jv_wI (jv_wI (jv_wI (jv_wI h b 0 (jv_bI false)) b 1 (jv_bI true)) b 3 k) b 4 ac) b 2 (jv_bI st)) b 5 bd) b 1 = jv_bI (decide (w = nI 2))
        first | (simp [oI_o, c1, c2, nI_12, nI_21]; done) | exact absurd (c1.symm.trans c2) (by decide)
      · show jv_I (jv_wI (jv_wI (jv_wI (jv_wI (jv_wI (jv_wI h b 0 (jv_bI false)) b 1 (jv_bI true)) b 3 k) b 4 ac) b 2 (jv_bI st)) b 5 bd) b 2 = jv_bI st
        first | (simp [oI_o, c1, c2, nI_12, nI_21]; done) | exact absurd (c1.symm.trans c2) (by decide)
      · show jv_I (jv_wI (jv_wI (jv_wI (jv_wI (jv_wI (jv_wI h b 0 (jv_bI false)) b 1 (jv_bI true)) b 3 k) b 4 ac) b 2 (jv_bI st)) b 5 bd) b 3 = k
        first | (simp [oI_o, c1, c2, nI_12, nI_21]; done) | exact absurd (c1.symm.trans c2) (by decide)
      · show jv_I (jv_wI (jv_wI (jv_wI (jv_wI (jv_wI (jv_wI h b 0 (jv_bI false)) b 1 (jv_bI true)) b 3 k) b 4 ac) b 2 (jv_bI st)) b 5 bd) b 4 = ac
        first | (simp [oI_o, c1, c2, nI_12, nI_21]; done) | exact absurd (c1.symm.trans c2) (by decide)
      · show jv_I (jv_wI (jv_wI (jv_wI (jv_wI (jv_wI (jv_wI h b 0 (jv_bI false)) b 1 (jv_bI true)) b 3 k) b 4 ac) b 2 (jv_bI st)) b 5 bd) b 5 = bd
        first | (simp [oI_o, c1, c2, nI_12, nI_21]; done) | exact absurd (c1.symm.trans c2) (by decide)
  · refine jv_iconst (q := 7) (v := nI 1) G dX3_begin_6 (by decide) rfl ?_
    refine jv_goto (q := 11) G dX3_begin_7 (by decide) ?_
    refine jv_topI (y := jv_bI true) rfl ?_
    refine jv_putZ (q := 14) G dX3_begin_11 fl_X3_9 rfl hb rfl ?_
    refine jv_aload_n (q := 15) G 0 dX3_begin_14 rfl rfl rfl ?_
    refine jv_iload_n (q := 16) G 1 dX3_begin_15 rfl rfl rfl ?_
    refine jv_iconst (q := 17) (v := nI 2) G dX3_begin_16 (by decide) rfl ?_
    refine jv_icmp_ne (q := 20) (tgt := 24) G dX3_begin_17 (by decide) rfl (fun c3 => ?_) (fun c3 => ?_)
    · refine jv_iconst (q := 25) (v := nI 0) G dX3_begin_24 (by decide) rfl ?_
      refine jv_topI (y := jv_bI false) rfl ?_
      refine jv_putZ (q := 28) G dX3_begin_25 fl_X3_15 rfl hb rfl ?_
      refine jv_aload_n (q := 29) G 0 dX3_begin_28 rfl rfl rfl ?_
      refine jv_iload_n (q := 30) G 2 dX3_begin_29 rfl rfl rfl ?_
      refine jv_putI (q := 33) G dX3_begin_30 fl_X3_18 rfl hb rfl ?_
      refine jv_aload_n (q := 34) G 0 dX3_begin_33 rfl rfl rfl ?_
      refine jv_iload_n (q := 35) G 3 dX3_begin_34 rfl rfl rfl ?_
      refine jv_putI (q := 38) G dX3_begin_35 fl_X3_22 rfl hb rfl ?_
      refine jv_aload_n (q := 39) G 0 dX3_begin_38 rfl rfl rfl ?_
      refine jv_iload (q := 41) G 4 dX3_begin_39 rfl rfl ?_
      refine jv_putZ (q := 44) G dX3_begin_41 fl_X3_25 rfl hb rfl ?_
      refine jv_aload_n (q := 45) G 0 dX3_begin_44 rfl rfl rfl ?_
      refine jv_iload (q := 47) G 5 dX3_begin_45 rfl rfl ?_
      refine jv_putI (q := 50) G dX3_begin_47 fl_X3_28 rfl hb rfl ?_
      refine jv_vret G hr dX3_begin_50 (Nat.le_of_ble_eq_true rfl) (Nat.le_of_ble_eq_true rfl) ?_
      refine ⟨rfl, show cF (fun c => c = b) h (jv_wI (jv_wI (jv_wI (jv_wI (jv_wI (jv_wI h b 0 (jv_bI true)) b 1 (jv_bI false)) b 3 k) b 4 ac) b 2 (jv_bI st)) b 5 bd) from (((((((cF.rf (S := (fun c => c = b))).wI rfl 0 (jv_bI true)).wI rfl 1 (jv_bI false)).wI rfl 3 k).wI rfl 4 ac).wI rfl 2 (jv_bI st)).wI rfl 5 bd), ?_, ?_, ?_, ?_, ?_, ?_⟩
      · show jv_I (jv_wI (jv_wI (jv_wI (jv_wI (jv_wI (jv_wI h b 0 (jv_bI true)) b 1 (jv_bI false)) b 3 k) b 4 ac) b 2 (jv_bI st)) b 5 bd) b 0 = jv_bI (decide (w = nI 1))
        first | (simp [oI_o, c1, c3, nI_12, nI_21]; done) | exact absurd (c1.symm.trans c3) (by decide)
      · show jv_I (jv_wI (jv_wI (jv_wI (jv_wI (jv_wI (jv_wI h b 0 (jv_bI true)) b 1 (jv_bI false)) b 3 k) b 4 ac) b 2 (jv_bI st)) b 5 bd) b 1 = jv_bI (decide (w = nI 2))
        first | (simp [oI_o, c1, c3, nI_12, nI_21]; done) | exact absurd (c1.symm.trans c3) (by decide)
      · show jv_I (jv_wI (jv_wI (jv_wI (jv_wI (jv_wI (jv_wI h b 0 (jv_bI true)) b 1 (jv_bI false)) b 3 k) b 4 ac) b 2 (jv_bI st)) b 5 bd) b 2 = jv_bI st
        first | (simp [oI_o, c1, c3, nI_12, nI_21]; done) | exact absurd (c1.symm.trans c3) (by decide)
      · show jv_I (jv_wI (jv_wI (jv_wI (jv_wI (jv_wI (jv_wI h b 0 (jv_bI true)) b 1 (jv_bI false)) b 3 k) b 4 ac) b 2 (jv_bI st)) b 5 bd) b 3 = k
        first | (simp [oI_o, c1, c3, nI_12, nI_21]; done) | exact absurd (c1.symm.trans c3) (by decide)
      · show jv_I (jv_wI (jv_wI (jv_wI (jv_wI (jv_wI (jv_wI h b 0 (jv_bI true)) b 1 (jv_bI false)) b 3 k) b 4 ac) b 2 (jv_bI st)) b 5 bd) b 4 = ac
        first | (simp [oI_o, c1, c3, nI_12, nI_21]; done) | exact absurd (c1.symm.trans c3) (by decide)
      · show jv_I (jv_wI (jv_wI (jv_wI (jv_wI (jv_wI (jv_wI h b 0 (jv_bI true)) b 1 (jv_bI false)) b 3 k) b 4 ac) b 2 (jv_bI st)) b 5 bd) b 5 = bd
        first | (simp [oI_o, c1, c3, nI_12, nI_21]; done) | exact absurd (c1.symm.trans c3) (by decide)
    · refine jv_iconst (q := 21) (v := nI 1) G dX3_begin_20 (by decide) rfl ?_
      refine jv_goto (q := 25) G dX3_begin_21 (by decide) ?_
      refine jv_topI (y := jv_bI true) rfl ?_
      refine jv_putZ (q := 28) G dX3_begin_25 fl_X3_15 rfl hb rfl ?_
      refine jv_aload_n (q := 29) G 0 dX3_begin_28 rfl rfl rfl ?_
      refine jv_iload_n (q := 30) G 2 dX3_begin_29 rfl rfl rfl ?_
      refine jv_putI (q := 33) G dX3_begin_30 fl_X3_18 rfl hb rfl ?_
      refine jv_aload_n (q := 34) G 0 dX3_begin_33 rfl rfl rfl ?_
      refine jv_iload_n (q := 35) G 3 dX3_begin_34 rfl rfl rfl ?_
      refine jv_putI (q := 38) G dX3_begin_35 fl_X3_22 rfl hb rfl ?_
      refine jv_aload_n (q := 39) G 0 dX3_begin_38 rfl rfl rfl ?_
      refine jv_iload (q := 41) G 4 dX3_begin_39 rfl rfl ?_
      refine jv_putZ (q := 44) G dX3_begin_41 fl_X3_25 rfl hb rfl ?_
      refine jv_aload_n (q := 45) G 0 dX3_begin_44 rfl rfl rfl ?_
      refine jv_iload (q := 47) G 5 dX3_begin_45 rfl rfl ?_
      refine jv_putI (q := 50) G dX3_begin_47 fl_X3_28 rfl hb rfl ?_
      refine jv_vret G hr dX3_begin_50 (Nat.le_of_ble_eq_true rfl) (Nat.le_of_ble_eq_true rfl) ?_
      refine ⟨rfl, show cF (fun c => c = b) h (jv_wI (jv_wI (jv_wI (jv_wI (jv_wI (jv_wI h b 0 (jv_bI true)) b 1 (jv_bI true)) b 3 k) b 4 ac) b 2 (jv_bI st)) b 5 bd) from (((((((cF.rf (S := (fun c => c = b))).wI rfl 0 (jv_bI true)).wI rfl 1 (jv_bI true)).wI rfl 3 k).wI rfl 4 ac).wI rfl 2 (jv_bI st)).wI rfl 5 bd), ?_, ?_, ?_, ?_, ?_, ?_⟩
      · show jv_I (jv_wI (jv_wI (jv_wI (jv_wI (jv_wI (jv_wI h b 0 (jv_bI true)) b 1 (jv_bI true)) b 3 k) b 4 ac) b 2 (jv_bI st)) b 5 bd) b 0 = jv_bI (decide (w = nI 1))
        first | (simp [oI_o, c1, c3, nI_12, nI_21]; done) | exact absurd (c1.symm.trans c3) (by decide)
      · show jv_I (jv_wI (jv_wI (jv_wI (jv_wI (jv_wI (jv_wI h b 0 (jv_bI true)) b 1 (jv_bI true)) b 3 k) b 4 ac) b 2 (jv_bI st)) b 5 bd) b 1 = jv_bI (decide (w = nI 2))
        first | (simp [oI_o, c1, c3, nI_12, nI_21]; done) | exact absurd (c1.symm.trans c3) (by decide)
      · show jv_I (jv_wI (jv_wI (jv_wI (jv_wI (jv_wI (jv_wI h b 0 (jv_bI true)) b 1 (jv_bI true)) b 3 k) b 4 ac) b 2 (jv_bI st)) b 5 bd) b 2 = jv_bI st
        first | (simp [oI_o, c1, c3, nI_12, nI_21]; done) | exact absurd (c1.symm.trans c3) (by decide)
      · show jv_I (jv_wI (jv_wI (jv_wI (jv_wI (jv_wI (jv_wI h b 0 (jv_bI true)) b 1 (jv_bI true)) b 3 k) b 4 ac) b 2 (jv_bI st)) b 5 bd) b 3 = k
        first | (simp [oI_o, c1, c3, nI_12, nI_21]; done) | exact absurd (c1.symm.trans c3) (by decide)
      · show jv_I (jv_wI (jv_wI (jv_wI (jv_wI (jv_wI (jv_wI h b 0 (jv_bI true)) b 1 (jv_bI true)) b 3 k) b 4 ac) b 2 (jv_bI st)) b 5 bd) b 4 = ac
        first | (simp [oI_o, c1, c3, nI_12, nI_21]; done) | exact absurd (c1.symm.trans c3) (by decide)
      · show jv_I (jv_wI (jv_wI (jv_wI (jv_wI (jv_wI (jv_wI h b 0 (jv_bI true)) b 1 (jv_bI true)) b 3 k) b 4 ac) b 2 (jv_bI st)) b 5 bd) b 5 = bd
        first | (simp [oI_o, c1, c3, nI_12, nI_21]; done) | exact absurd (c1.symm.trans c3) (by decide)
set_option maxHeartbeats 4000000 in
set_option maxRecDepth 100000 in
theorem k_mTake {lA : Launch} (hlt : lA.stackTraces = false) {D : jv_D} {base : Nat} {h : jv_H} {b c : Nat} {o : mM} (hb : jv_sh h b = some (.inl 3)) (hc : jv_sh h c = some (.inl 3)) (hne : c ≠ b) (ho : cv_M h c o) : jv_Met lA D base yX3_takeFrom (.code yX3_takeFrom cX3_takeFrom 2 none) 1 0 0 [.ref b, .ref c] h (fun v h' => v = none ∧ cF (fun c => c = b) h h' ∧ cv_M h' b o) jv_no := by
  refine jv_ofV (lo := [(0, .ref b), (1, .ref c)]) hlt (by decide) (Nat.le_of_ble_eq_true rfl) rfl (fun E hEl hEd hEz Z G hr ht hnm => ?_)
  subst hEl; subst hEd; subst hEz
  refine jv_aload_n (q := 1) G 0 dX3_takeFrom_0 rfl rfl rfl ?_
  refine jv_aload_n (q := 2) G 1 dX3_takeFrom_1 rfl rfl rfl ?_
  refine jv_getZ (q := 5) G dX3_takeFrom_2 fl_X3_9 rfl hc ho.1 rfl ?_
  refine jv_putZ (q := 8) G dX3_takeFrom_5 fl_X3_9 rfl hb rfl ?_
  refine jv_aload_n (q := 9) G 0 dX3_takeFrom_8 rfl rfl rfl ?_
  refine jv_aload_n (q := 10) G 1 dX3_takeFrom_9 rfl rfl rfl ?_
  refine jv_getZ (q := 13) G dX3_takeFrom_10 fl_X3_15 rfl hc ((jv_I_wI _ _ _ _ _ _).trans ((if_neg (fun e => hne e.1)).trans ho.2.1)) rfl ?_
  refine jv_putZ (q := 16) G dX3_takeFrom_13 fl_X3_15 rfl hb rfl ?_
  refine jv_aload_n (q := 17) G 0 dX3_takeFrom_16 rfl rfl rfl ?_
  refine jv_aload_n (q := 18) G 1 dX3_takeFrom_17 rfl rfl rfl ?_
  refine jv_getZ (q := 21) G dX3_takeFrom_18 fl_X3_25 rfl hc ((jv_I_wI _ _ _ _ _ _).trans ((if_neg (fun e => hne e.1)).trans ((jv_I_wI _ _ _ _ _ _).trans ((if_neg (fun e => hne e.1)).trans ho.2.2.1)))) rfl ?_
  refine jv_putZ (q := 24) G dX3_takeFrom_21 fl_X3_25 rfl hb rfl ?_
  refine jv_aload_n (q := 25) G 0 dX3_takeFrom_24 rfl rfl rfl ?_
  refine jv_aload_n (q := 26) G 1 dX3_takeFrom_25 rfl rfl rfl ?_
  refine jv_getI (q := 29) G dX3_takeFrom_26 fl_X3_18 rfl hc ((jv_I_wI _ _ _ _ _ _).trans ((if_neg (fun e => hne e.1)).trans ((jv_I_wI _ _ _ _ _ _).trans ((if_neg (fun e => hne e.1)).trans ((jv_I_wI _ _ _ _ _ _).trans ((if_neg (fun e => hne e.1)).trans ho.2.2.2.1)))))) rfl ?_
  refine jv_putI (q := 32) G dX3_takeFrom_29 fl_X3_18 rfl hb rfl ?_
  refine jv_aload_n (q := 33) G 0 dX3_takeFrom_32 rfl rfl rfl ?_
  refine jv_aload_n (q := 34) G 1 dX3_takeFrom_33 rfl rfl rfl ?_
  refine jv_getI (q := 37) G dX3_takeFrom_34 fl_X3_22 rfl hc ((jv_I_wI _ _ _ _ _ _).trans ((if_neg (fun e => hne e.1)).trans ((jv_I_wI _ _ _ _ _ _).trans ((if_neg (fun e => hne e.1)).trans ((jv_I_wI _ _ _ _ _ _).trans ((if_neg (fun e => hne e.1)).trans ((jv_I_wI _ _ _ _ _ _).trans ((if_neg (fun e => hne e.1)).trans ho.2.2.2.2.1)))))))) rfl ?_
  refine jv_putI (q := 40) G dX3_takeFrom_37 fl_X3_22 rfl hb rfl ?_
  refine jv_aload_n (q := 41) G 0 dX3_takeFrom_40 rfl rfl rfl ?_
  refine jv_aload_n (q := 42) G 1 dX3_takeFrom_41 rfl rfl rfl ?_
  refine jv_getI (q := 45) G dX3_takeFrom_42 fl_X3_28 rfl hc ((jv_I_wI _ _ _ _ _ _).trans ((if_neg (fun e => hne e.1)).trans ((jv_I_wI _ _ _ _ _ _).trans ((if_neg (fun e => hne e.1)).trans ((jv_I_wI _ _ _ _ _ _).trans ((if_neg (fun e => hne e.1)).trans ((jv_I_wI _ _ _ _ _ _).trans ((if_neg (fun e => hne e.1)).trans ((jv_I_wI _ _ _ _ _ _).trans ((if_neg (fun e => hne e.1)).trans ho.2.2.2.2.2)))))))))) rfl ?_
  refine jv_putI (q := 48) G dX3_takeFrom_45 fl_X3_28 rfl hb rfl ?_
  refine jv_vret G hr dX3_takeFrom_48 (Nat.le_of_ble_eq_true rfl) (Nat.le_of_ble_eq_true rfl) ?_
  refine ⟨rfl, show cF (fun c => c = b) h (jv_wI (jv_wI (jv_wI (jv_wI (jv_wI (jv_wI h b 0 (jv_bI (mm_w o))) b 1 (jv_bI (mm_c o))) b 2 (jv_bI (mm_t o))) b 3 (nI (4 * mm_n o + mm_s o))) b 4 (nI (mm_a o))) b 5 (mm_b o)) from (((((((cF.rf (S := (fun c => c = b))).wI rfl 0 (jv_bI (mm_w o))).wI rfl 1 (jv_bI (mm_c o))).wI rfl 2 (jv_bI (mm_t o))).wI rfl 3 (nI (4 * mm_n o + mm_s o))).wI rfl 4 (nI (mm_a o))).wI rfl 5 (mm_b o)), ?_⟩
  refine ⟨?_, ?_, ?_, ?_, ?_, ?_⟩ <;> simp [oI_o]
set_option maxHeartbeats 4000000 in
set_option maxRecDepth 100000 in
theorem k_forget {lA : Launch} (hlt : lA.stackTraces = false) {D : jv_D} {base : Nat} {h : jv_H} {a : Nat} (ha : jv_sh h a = some (.inl 5)) : jv_Met lA D base yX5_forgetUppers (.code yX5_forgetUppers cX5_forgetUppers 1 none) 1 0 0 [.ref a] h (fun v h' => v = none ∧ cF (fun c => c = a) h h' ∧ jv_I h' a 13 = nI 0 ∧ jv_I h' a 14 = nI 0 ∧ (∀ k, k ≠ 13 → k ≠ 14 → jv_I h' a k = jv_I h a k) ∧ ∀ k, jv_L h' a k = jv_L h a k) jv_no := by
  refine jv_ofV (lo := [(0, .ref a)]) hlt (by decide) (Nat.le_of_ble_eq_true rfl) rfl (fun E hEl hEd hEz Z G hr ht hnm => ?_)
  subst hEl; subst hEd; subst hEz
  refine jv_aload_n (q := 1) G 0 dX5_forgetUppers_0 rfl rfl rfl ?_
  refine jv_iconst (q := 2) (v := nI 0) G dX5_forgetUppers_1 (by decide) rfl ?_
  refine jv_putI (q := 5) G dX5_forgetUppers_2 fl_X5_86 rfl ha rfl ?_
  refine jv_aload_n (q := 6) G 0 dX5_forgetUppers_5 rfl rfl rfl ?_
  refine jv_iconst (q := 7) (v := nI 0) G dX5_forgetUppers_6 (by decide) rfl ?_
  refine jv_putI (q := 10) G dX5_forgetUppers_7 fl_X5_89 rfl ha rfl ?_
  refine jv_vret G hr dX5_forgetUppers_10 (Nat.le_of_ble_eq_true rfl) (Nat.le_of_ble_eq_true rfl) ?_
  refine ⟨rfl, show cF (fun c => c = a) h (jv_wI (jv_wI h a 13 (nI 0)) a 14 (nI 0)) from (((cF.rf (S := (fun c => c = a))).wI rfl 13 (nI 0)).wI rfl 14 (nI 0)), ?_, ?_, fun k h1 h2 => ?_, fun k => rfl⟩
  · simp [oI_o]
  · simp [oI_o]
  · rw [oI_o, if_neg h2, oI_o, if_neg h1]
set_option maxHeartbeats 4000000 in
set_option maxRecDepth 100000 in
theorem k_tBegin {lA : Launch} (hlt : lA.stackTraces = false) {D : jv_D} {base : Nat} {z : Nat → Nat → Nat} {N : Nat → Nat → Nat} {h : jv_H} {a : Nat} {n p s : Int32} {i ab pb : Bool} (ha : jv_sh h a = some (.inl 5)) (an : n.toNatClampNeg ≤ 15 ∧ n = nI n.toNatClampNeg) (ap : p.toNatClampNeg ≤ 3 ∧ p = nI p.toNatClampNeg) (as : s = jv_oN (m_oI s) ∧ True) : jv_Met lA D base yX5_begin (.code yX5_begin cX5_begin 7 none) 2 0 0 [.ref a, .int n, .int (jv_bI i), .int (jv_bI ab), .int p, .int (jv_bI pb), .int s] h (fun v h' => v = none ∧ cF (fun c => c = a) h h' ∧ cv_T z N h' a (m_tyN n i (i || ab) p pb s) ∧ jv_I h' a 13 = nI 0 ∧ jv_I h' a 14 = nI 0) jv_no := by
  refine jv_ofV (lo := [(0, .ref a), (1, .int n), (2, .int (jv_bI i)), (3, .int (jv_bI ab)), (4, .int p), (5, .int (jv_bI pb)), (6, .int s)]) hlt (by decide) (Nat.le_of_ble_eq_true rfl) rfl (fun E hEl hEd hEz Z G hr ht hnm => ?_)
  subst hEl; subst hEd; subst hEz
  refine jv_aload_n (q := 1) G 0 dX5_begin_0 rfl rfl rfl ?_
  refine jv_iload_n (q := 2) G 1 dX5_begin_1 rfl rfl rfl ?_
  refine jv_putI (q := 5) G dX5_begin_2 fl_X5_25 rfl ha rfl ?_
  refine jv_aload_n (q := 6) G 0 dX5_begin_5 rfl rfl rfl ?_
  refine jv_iload_n (q := 7) G 2 dX5_begin_6 rfl rfl rfl ?_
  refine jv_putZ (q := 10) G dX5_begin_7 fl_X5_29 rfl ha rfl ?_
  refine jv_aload_n (q := 11) G 0 dX5_begin_10 rfl rfl rfl ?_
  refine jv_iload_n (q := 12) G 2 dX5_begin_11 rfl rfl rfl ?_
  refine jv_if_neB (q := 15) (tgt := 19) G dX5_begin_12 (by decide) rfl (fun c1 => ?_) (fun c1 => ?_)
  · refine jv_iconst (q := 20) (v := nI 1) G dX5_begin_19 (by decide) rfl ?_
    refine jv_goto (q := 24) G dX5_begin_20 (by decide) ?_
    refine jv_topI (y := jv_bI true) rfl ?_
    refine jv_putZ (q := 27) G dX5_begin_24 fl_X5_33 rfl ha rfl ?_
    refine jv_aload_n (q := 28) G 0 dX5_begin_27 rfl rfl rfl ?_
    refine jv_iload (q := 30) G 4 dX5_begin_28 rfl rfl ?_
    refine jv_putI (q := 33) G dX5_begin_30 fl_X5_36 rfl ha rfl ?_
    refine jv_aload_n (q := 34) G 0 dX5_begin_33 rfl rfl rfl ?_
    refine jv_iload (q := 36) G 5 dX5_begin_34 rfl rfl ?_
    refine jv_putZ (q := 39) G dX5_begin_36 fl_X5_39 rfl ha rfl ?_
    refine jv_aload_n (q := 40) G 0 dX5_begin_39 rfl rfl rfl ?_
    refine jv_iload (q := 42) G 6 dX5_begin_40 rfl rfl ?_
    refine jv_putI (q := 45) G dX5_begin_42 fl_X5_42 rfl ha rfl ?_
    refine jv_aload_n (q := 46) G 0 dX5_begin_45 rfl rfl rfl ?_
    refine jv_iconst (q := 47) (v := nI 0) G dX5_begin_46 (by decide) rfl ?_
    refine jv_putI (q := 50) G dX5_begin_47 fl_X5_45 rfl ha rfl ?_
    refine jv_aload_n (q := 51) G 0 dX5_begin_50 rfl rfl rfl ?_
    refine jv_iconst (q := 52) (v := nI 0) G dX5_begin_51 (by decide) rfl ?_
    refine jv_putI (q := 55) G dX5_begin_52 fl_X5_48 rfl ha rfl ?_
    refine jv_aload_n (q := 56) G 0 dX5_begin_55 rfl rfl rfl ?_
    refine jv_lconst (q := 57) (v := 0) G dX5_begin_56 (by decide) rfl ?_
    refine jv_putL (q := 60) G dX5_begin_57 fl_X5_51 rfl ha rfl ?_
    refine jv_aload_n (q := 61) G 0 dX5_begin_60 rfl rfl rfl ?_
    refine jv_lconst (q := 62) (v := 0) G dX5_begin_61 (by decide) rfl ?_
    refine jv_putL (q := 65) G dX5_begin_62 fl_X5_55 rfl ha rfl ?_
    refine jv_aload_n (q := 66) G 0 dX5_begin_65 rfl rfl rfl ?_
    refine jv_callV (q := 69) (As := []) (rest := []) G Z ml_X5_58 (k_forget hlt ha) ha dX5_begin_66 rfl (by decide) (by decide) (by decide) (by decide) (Nat.le_of_ble_eq_true rfl) rfl rfl (fun v3 h2 y4 => ?_) (fun _ _ hx => hx.elim)
    obtain ⟨rfl, hFf, h13, h14, hIf, hLf⟩ := y4
    show jv_V E 7 h2 0 0 (jv_Q E (fun v h' => v = none ∧ cF (fun c => c = a) h h' ∧ cv_T z N h' a (m_tyN n i (i || ab) p pb s) ∧ jv_I h' a 13 = nI 0 ∧ jv_I h' a 14 = nI 0) jv_no 0 0) 69 [(0, .ref a), (1, .int n), (2, .int (jv_bI i)), (3, .int (jv_bI ab)), (4, .int p), (5, .int (jv_bI pb)), (6, .int s)] []
    refine jv_vret G hr dX5_begin_69 (Nat.le_of_ble_eq_true rfl) (Nat.le_of_ble_eq_true rfl) ?_
    refine ⟨rfl, (show cF (fun c => c = a) h (jv_wL (jv_wL (jv_wI (jv_wI (jv_wI (jv_wI (jv_wI (jv_wI (jv_wI (jv_wI h a 0 n) a 1 (jv_bI i)) a 2 (jv_bI true)) a 3 p) a 4 (jv_bI pb)) a 5 s) a 7 (nI 0)) a 9 (nI 0)) a 10 (0 : Int64)) a 11 (0 : Int64)) from (((((((((((cF.rf (S := (fun c => c = a))).wI rfl 0 n).wI rfl 1 (jv_bI i)).wI rfl 2 (jv_bI true)).wI rfl 3 p).wI rfl 4 (jv_bI pb)).wI rfl 5 s).wI rfl 7 (nI 0)).wI rfl 9 (nI 0)).wL rfl 10 (0 : Int64)).wL rfl 11 (0 : Int64))).tr hFf, ?_, h13, h14⟩
    refine ⟨?_, ?_, ?_, ?_, ?_, ?_, ?_, ?_, ?_, ?_, fun j v e => by simp [m_tyN, mt_f] at e, fun j v e => by simp [m_tyN, mt_m] at e⟩
    · exact ((hIf 0 (by decide) (by decide)).trans (show jv_I (jv_wL (jv_wL (jv_wI (jv_wI (jv_wI (jv_wI (jv_wI (jv_wI (jv_wI (jv_wI h a 0 n) a 1 (jv_bI i)) a 2 (jv_bI true)) a 3 p) a 4 (jv_bI pb)) a 5 s) a 7 (nI 0)) a 9 (nI 0)) a 10 (0 : Int64)) a 11 (0 : Int64)) a 0 = n by simp [oI_o, jv_I_wL])).trans an.2
    · exact ((hIf 1 (by decide) (by decide)).trans (show jv_I (jv_wL (jv_wL (jv_wI (jv_wI (jv_wI (jv_wI (jv_wI (jv_wI (jv_wI (jv_wI h a 0 n) a 1 (jv_bI i)) a 2 (jv_bI true)) a 3 p) a 4 (jv_bI pb)) a 5 s) a 7 (nI 0)) a 9 (nI 0)) a 10 (0 : Int64)) a 11 (0 : Int64)) a 1 = jv_bI i by simp [oI_o, jv_I_wL]))
    · exact ((hIf 2 (by decide) (by decide)).trans (show jv_I (jv_wL (jv_wL (jv_wI (jv_wI (jv_wI (jv_wI (jv_wI (jv_wI (jv_wI (jv_wI h a 0 n) a 1 (jv_bI i)) a 2 (jv_bI true)) a 3 p) a 4 (jv_bI pb)) a 5 s) a 7 (nI 0)) a 9 (nI 0)) a 10 (0 : Int64)) a 11 (0 : Int64)) a 2 = jv_bI (i || ab) by simp [oI_o, jv_I_wL, c1]))
    · exact ((hIf 3 (by decide) (by decide)).trans (show jv_I (jv_wL (jv_wL (jv_wI (jv_wI (jv_wI (jv_wI (jv_wI (jv_wI (jv_wI (jv_wI h a 0 n) a 1 (jv_bI i)) a 2 (jv_bI true)) a 3 p) a 4 (jv_bI pb)) a 5 s) a 7 (nI 0)) a 9 (nI 0)) a 10 (0 : Int64)) a 11 (0 : Int64)) a 3 = p by simp [oI_o, jv_I_wL])).trans ap.2
    · exact ((hIf 4 (by decide) (by decide)).trans (show jv_I (jv_wL (jv_wL (jv_wI (jv_wI (jv_wI (jv_wI (jv_wI (jv_wI (jv_wI (jv_wI h a 0 n) a 1 (jv_bI i)) a 2 (jv_bI true)) a 3 p) a 4 (jv_bI pb)) a 5 s) a 7 (nI 0)) a 9 (nI 0)) a 10 (0 : Int64)) a 11 (0 : Int64)) a 4 = jv_bI pb by simp [oI_o, jv_I_wL]))
    · exact ((hIf 5 (by decide) (by decide)).trans (show jv_I (jv_wL (jv_wL (jv_wI (jv_wI (jv_wI (jv_wI (jv_wI (jv_wI (jv_wI (jv_wI h a 0 n) a 1 (jv_bI i)) a 2 (jv_bI true)) a 3 p) a 4 (jv_bI pb)) a 5 s) a 7 (nI 0)) a 9 (nI 0)) a 10 (0 : Int64)) a 11 (0 : Int64)) a 5 = s by simp [oI_o, jv_I_wL])).trans as.1
    · exact ((hIf 7 (by decide) (by decide)).trans (show jv_I (jv_wL (jv_wL (jv_wI (jv_wI (jv_wI (jv_wI (jv_wI (jv_wI (jv_wI (jv_wI h a 0 n) a 1 (jv_bI i)) a 2 (jv_bI true)) a 3 p) a 4 (jv_bI pb)) a 5 s) a 7 (nI 0)) a 9 (nI 0)) a 10 (0 : Int64)) a 11 (0 : Int64)) a 7 = nI 0 by simp [oI_o, jv_I_wL]))
    · exact ((hIf 9 (by decide) (by decide)).trans (show jv_I (jv_wL (jv_wL (jv_wI (jv_wI (jv_wI (jv_wI (jv_wI (jv_wI (jv_wI (jv_wI h a 0 n) a 1 (jv_bI i)) a 2 (jv_bI true)) a 3 p) a 4 (jv_bI pb)) a 5 s) a 7 (nI 0)) a 9 (nI 0)) a 10 (0 : Int64)) a 11 (0 : Int64)) a 9 = nI 0 by simp [oI_o, jv_I_wL]))
    · exact (hLf 10).trans (show jv_L (jv_wL (jv_wL (jv_wI (jv_wI (jv_wI (jv_wI (jv_wI (jv_wI (jv_wI (jv_wI h a 0 n) a 1 (jv_bI i)) a 2 (jv_bI true)) a 3 p) a 4 (jv_bI pb)) a 5 s) a 7 (nI 0)) a 9 (nI 0)) a 10 (0 : Int64)) a 11 (0 : Int64)) a 10 = lN 0 by simp [oL_o, jv_L_wI]; rfl)
    · exact (hLf 11).trans (show jv_L (jv_wL (jv_wL (jv_wI (jv_wI (jv_wI (jv_wI (jv_wI (jv_wI (jv_wI (jv_wI h a 0 n) a 1 (jv_bI i)) a 2 (jv_bI true)) a 3 p) a 4 (jv_bI pb)) a 5 s) a 7 (nI 0)) a 9 (nI 0)) a 10 (0 : Int64)) a 11 (0 : Int64)) a 11 = lN 0 by simp [oL_o, jv_L_wI]; rfl)
  · refine jv_iload_n (q := 16) G 3 dX5_begin_15 rfl rfl rfl ?_
    refine jv_if_eqB (q := 19) (tgt := 23) G dX5_begin_16 (by decide) rfl (fun c5 => ?_) (fun c5 => ?_)
    · refine jv_iconst (q := 24) (v := nI 0) G dX5_begin_23 (by decide) rfl ?_
      refine jv_topI (y := jv_bI false) rfl ?_
      refine jv_putZ (q := 27) G dX5_begin_24 fl_X5_33 rfl ha rfl ?_
      refine jv_aload_n (q := 28) G 0 dX5_begin_27 rfl rfl rfl ?_
      refine jv_iload (q := 30) G 4 dX5_begin_28 rfl rfl ?_
      refine jv_putI (q := 33) G dX5_begin_30 fl_X5_36 rfl ha rfl ?_
      refine jv_aload_n (q := 34) G 0 dX5_begin_33 rfl rfl rfl ?_
      refine jv_iload (q := 36) G 5 dX5_begin_34 rfl rfl ?_
      refine jv_putZ (q := 39) G dX5_begin_36 fl_X5_39 rfl ha rfl ?_
      refine jv_aload_n (q := 40) G 0 dX5_begin_39 rfl rfl rfl ?_
      refine jv_iload (q := 42) G 6 dX5_begin_40 rfl rfl ?_
      refine jv_putI (q := 45) G dX5_begin_42 fl_X5_42 rfl ha rfl ?_
      refine jv_aload_n (q := 46) G 0 dX5_begin_45 rfl rfl rfl ?_
      refine jv_iconst (q := 47) (v := nI 0) G dX5_begin_46 (by decide) rfl ?_
      refine jv_putI (q := 50) G dX5_begin_47 fl_X5_45 rfl ha rfl ?_
      refine jv_aload_n (q := 51) G 0 dX5_begin_50 rfl rfl rfl ?_
      refine jv_iconst (q := 52) (v := nI 0) G dX5_begin_51 (by decide) rfl ?_
      refine jv_putI (q := 55) G dX5_begin_52 fl_X5_48 rfl ha rfl ?_
      refine jv_aload_n (q := 56) G 0 dX5_begin_55 rfl rfl rfl ?_
      refine jv_lconst (q := 57) (v := 0) G dX5_begin_56 (by decide) rfl ?_
      refine jv_putL (q := 60) G dX5_begin_57 fl_X5_51 rfl ha rfl ?_
      refine jv_aload_n (q := 61) G 0 dX5_begin_60 rfl rfl rfl ?_
      refine jv_lconst (q := 62) (v := 0) G dX5_begin_61 (by decide) rfl ?_
      refine jv_putL (q := 65) G dX5_begin_62 fl_X5_55 rfl ha rfl ?_
      refine jv_aload_n (q := 66) G 0 dX5_begin_65 rfl rfl rfl ?_
      refine jv_callV (q := 69) (As := []) (rest := []) G Z ml_X5_58 (k_forget hlt ha) ha dX5_begin_66 rfl (by decide) (by decide) (by decide) (by decide) (Nat.le_of_ble_eq_true rfl) rfl rfl (fun v7 h6 y8 => ?_) (fun _ _ hx => hx.elim)
      obtain ⟨rfl, hFf, h13, h14, hIf, hLf⟩ := y8
      show jv_V E 7 h6 0 0 (jv_Q E (fun v h' => v = none ∧ cF (fun c => c = a) h h' ∧ cv_T z N h' a (m_tyN n i (i || ab) p pb s) ∧ jv_I h' a 13 = nI 0 ∧ jv_I h' a 14 = nI 0) jv_no 0 0) 69 [(0, .ref a), (1, .int n), (2, .int (jv_bI i)), (3, .int (jv_bI ab)), (4, .int p), (5, .int (jv_bI pb)), (6, .int s)] []
      refine jv_vret G hr dX5_begin_69 (Nat.le_of_ble_eq_true rfl) (Nat.le_of_ble_eq_true rfl) ?_
      refine ⟨rfl, (show cF (fun c => c = a) h (jv_wL (jv_wL (jv_wI (jv_wI (jv_wI (jv_wI (jv_wI (jv_wI (jv_wI (jv_wI h a 0 n) a 1 (jv_bI i)) a 2 (jv_bI false)) a 3 p) a 4 (jv_bI pb)) a 5 s) a 7 (nI 0)) a 9 (nI 0)) a 10 (0 : Int64)) a 11 (0 : Int64)) from (((((((((((cF.rf (S := (fun c => c = a))).wI rfl 0 n).wI rfl 1 (jv_bI i)).wI rfl 2 (jv_bI false)).wI rfl 3 p).wI rfl 4 (jv_bI pb)).wI rfl 5 s).wI rfl 7 (nI 0)).wI rfl 9 (nI 0)).wL rfl 10 (0 : Int64)).wL rfl 11 (0 : Int64))).tr hFf, ?_, h13, h14⟩
      refine ⟨?_, ?_, ?_, ?_, ?_, ?_, ?_, ?_, ?_, ?_, fun j v e => by simp [m_tyN, mt_f] at e, fun j v e => by simp [m_tyN, mt_m] at e⟩
      · exact ((hIf 0 (by decide) (by decide)).trans (show jv_I (jv_wL (jv_wL (jv_wI (jv_wI (jv_wI (jv_wI (jv_wI (jv_wI (jv_wI (jv_wI h a 0 n) a 1 (jv_bI i)) a 2 (jv_bI false)) a 3 p) a 4 (jv_bI pb)) a 5 s) a 7 (nI 0)) a 9 (nI 0)) a 10 (0 : Int64)) a 11 (0 : Int64)) a 0 = n by simp [oI_o, jv_I_wL])).trans an.2
      · exact ((hIf 1 (by decide) (by decide)).trans (show jv_I (jv_wL (jv_wL (jv_wI (jv_wI (jv_wI (jv_wI (jv_wI (jv_wI (jv_wI (jv_wI h a 0 n) a 1 (jv_bI i)) a 2 (jv_bI false)) a 3 p) a 4 (jv_bI pb)) a 5 s) a 7 (nI 0)) a 9 (nI 0)) a 10 (0 : Int64)) a 11 (0 : Int64)) a 1 = jv_bI i by simp [oI_o, jv_I_wL]))
      · exact ((hIf 2 (by decide) (by decide)).trans (show jv_I (jv_wL (jv_wL (jv_wI (jv_wI (jv_wI (jv_wI (jv_wI (jv_wI (jv_wI (jv_wI h a 0 n) a 1 (jv_bI i)) a 2 (jv_bI false)) a 3 p) a 4 (jv_bI pb)) a 5 s) a 7 (nI 0)) a 9 (nI 0)) a 10 (0 : Int64)) a 11 (0 : Int64)) a 2 = jv_bI (i || ab) by simp [oI_o, jv_I_wL, c1, c5]))
      · exact ((hIf 3 (by decide) (by decide)).trans (show jv_I (jv_wL (jv_wL (jv_wI (jv_wI (jv_wI (jv_wI (jv_wI (jv_wI (jv_wI (jv_wI h a 0 n) a 1 (jv_bI i)) a 2 (jv_bI false)) a 3 p) a 4 (jv_bI pb)) a 5 s) a 7 (nI 0)) a 9 (nI 0)) a 10 (0 : Int64)) a 11 (0 : Int64)) a 3 = p by simp [oI_o, jv_I_wL])).trans ap.2
      · exact ((hIf 4 (by decide) (by decide)).trans (show jv_I (jv_wL (jv_wL (jv_wI (jv_wI (jv_wI (jv_wI (jv_wI (jv_wI (jv_wI (jv_wI h a 0 n) a 1 (jv_bI i)) a 2 (jv_bI false)) a 3 p) a 4 (jv_bI pb)) a 5 s) a 7 (nI 0)) a 9 (nI 0)) a 10 (0 : Int64)) a 11 (0 : Int64)) a 4 = jv_bI pb by simp [oI_o, jv_I_wL]))
      · exact ((hIf 5 (by decide) (by decide)).trans (show jv_I (jv_wL (jv_wL (jv_wI (jv_wI (jv_wI (jv_wI (jv_wI (jv_wI (jv_wI (jv_wI h a 0 n) a 1 (jv_bI i)) a 2 (jv_bI false)) a 3 p) a 4 (jv_bI pb)) a 5 s) a 7 (nI 0)) a 9 (nI 0)) a 10 (0 : Int64)) a 11 (0 : Int64)) a 5 = s by simp [oI_o, jv_I_wL])).trans as.1
      · exact ((hIf 7 (by decide) (by decide)).trans (show jv_I (jv_wL (jv_wL (jv_wI (jv_wI (jv_wI (jv_wI (jv_wI (jv_wI (jv_wI (jv_wI h a 0 n) a 1 (jv_bI i)) a 2 (jv_bI false)) a 3 p) a 4 (jv_bI pb)) a 5 s) a 7 (nI 0)) a 9 (nI 0)) a 10 (0 : Int64)) a 11 (0 : Int64)) a 7 = nI 0 by simp [oI_o, jv_I_wL]))
      · exact ((hIf 9 (by decide) (by decide)).trans (show jv_I (jv_wL (jv_wL (jv_wI (jv_wI (jv_wI (jv_wI (jv_wI (jv_wI (jv_wI (jv_wI h a 0 n) a 1 (jv_bI i)) a 2 (jv_bI false)) a 3 p) a 4 (jv_bI pb)) a 5 s) a 7 (nI 0)) a 9 (nI 0)) a 10 (0 : Int64)) a 11 (0 : Int64)) a 9 = nI 0 by simp [oI_o, jv_I_wL]))
      · exact (hLf 10).trans (show jv_L (jv_wL (jv_wL (jv_wI (jv_wI (jv_wI (jv_wI (jv_wI (jv_wI (jv_wI (jv_wI h a 0 n) a 1 (jv_bI i)) a 2 (jv_bI false)) a 3 p) a 4 (jv_bI pb)) a 5 s) a 7 (nI 0)) a 9 (nI 0)) a 10 (0 : Int64)) a 11 (0 : Int64)) a 10 = lN 0 by simp [oL_o, jv_L_wI]; rfl)
      · exact (hLf 11).trans (show jv_L (jv_wL (jv_wL (jv_wI (jv_wI (jv_wI (jv_wI (jv_wI (jv_wI (jv_wI (jv_wI h a 0 n) a 1 (jv_bI i)) a 2 (jv_bI false)) a 3 p) a 4 (jv_bI pb)) a 5 s) a 7 (nI 0)) a 9 (nI 0)) a 10 (0 : Int64)) a 11 (0 : Int64)) a 11 = lN 0 by simp [oL_o, jv_L_wI]; rfl)
    · refine jv_iconst (q := 20) (v := nI 1) G dX5_begin_19 (by decide) rfl ?_
      refine jv_goto (q := 24) G dX5_begin_20 (by decide) ?_
      refine jv_topI (y := jv_bI true) rfl ?_
      refine jv_putZ (q := 27) G dX5_begin_24 fl_X5_33 rfl ha rfl ?_
      refine jv_aload_n (q := 28) G 0 dX5_begin_27 rfl rfl rfl ?_
      refine jv_iload (q := 30) G 4 dX5_begin_28 rfl rfl ?_
      refine jv_putI (q := 33) G dX5_begin_30 fl_X5_36 rfl ha rfl ?_
      refine jv_aload_n (q := 34) G 0 dX5_begin_33 rfl rfl rfl ?_
      refine jv_iload (q := 36) G 5 dX5_begin_34 rfl rfl ?_
      refine jv_putZ (q := 39) G dX5_begin_36 fl_X5_39 rfl ha rfl ?_
      refine jv_aload_n (q := 40) G 0 dX5_begin_39 rfl rfl rfl ?_
      refine jv_iload (q := 42) G 6 dX5_begin_40 rfl rfl ?_
      refine jv_putI (q := 45) G dX5_begin_42 fl_X5_42 rfl ha rfl ?_
      refine jv_aload_n (q := 46) G 0 dX5_begin_45 rfl rfl rfl ?_
      refine jv_iconst (q := 47) (v := nI 0) G dX5_begin_46 (by decide) rfl ?_
      refine jv_putI (q := 50) G dX5_begin_47 fl_X5_45 rfl ha rfl ?_
      refine jv_aload_n (q := 51) G 0 dX5_begin_50 rfl rfl rfl ?_
      refine jv_iconst (q := 52) (v := nI 0) G dX5_begin_51 (by decide) rfl ?_
      refine jv_putI (q := 55) G dX5_begin_52 fl_X5_48 rfl ha rfl ?_
      refine jv_aload_n (q := 56) G 0 dX5_begin_55 rfl rfl rfl ?_
      refine jv_lconst (q := 57) (v := 0) G dX5_begin_56 (by decide) rfl ?_
      refine jv_putL (q := 60) G dX5_begin_57 fl_X5_51 rfl ha rfl ?_
      refine jv_aload_n (q := 61) G 0 dX5_begin_60 rfl rfl rfl ?_
      refine jv_lconst (q := 62) (v := 0) G dX5_begin_61 (by decide) rfl ?_
      refine jv_putL (q := 65) G dX5_begin_62 fl_X5_55 rfl ha rfl ?_
      refine jv_aload_n (q := 66) G 0 dX5_begin_65 rfl rfl rfl ?_
      refine jv_callV (q := 69) (As := []) (rest := []) G Z ml_X5_58 (k_forget hlt ha) ha dX5_begin_66 rfl (by decide) (by decide) (by decide) (by decide) (Nat.le_of_ble_eq_true rfl) rfl rfl (fun v10 h9 y11 => ?_) (fun _ _ hx => hx.elim)
      obtain ⟨rfl, hFf, h13, h14, hIf, hLf⟩ := y11
      show jv_V E 7 h9 0 0 (jv_Q E (fun v h' => v = none ∧ cF (fun c => c = a) h h' ∧ cv_T z N h' a (m_tyN n i (i || ab) p pb s) ∧ jv_I h' a 13 = nI 0 ∧ jv_I h' a 14 = nI 0) jv_no 0 0) 69 [(0, .ref a), (1, .int n), (2, .int (jv_bI i)), (3, .int (jv_bI ab)), (4, .int p), (5, .int (jv_bI pb)), (6, .int s)] []
      refine jv_vret G hr dX5_begin_69 (Nat.le_of_ble_eq_true rfl) (Nat.le_of_ble_eq_true rfl) ?_
      refine ⟨rfl, (show cF (fun c => c = a) h (jv_wL (jv_wL (jv_wI (jv_wI (jv_wI (jv_wI (jv_wI (jv_wI (jv_wI (jv_wI h a 0 n) a 1 (jv_bI i)) a 2 (jv_bI true)) a 3 p) a 4 (jv_bI pb)) a 5 s) a 7 (nI 0)) a 9 (nI 0)) a 10 (0 : Int64)) a 11 (0 : Int64)) from (((((((((((cF.rf (S := (fun c => c = a))).wI rfl 0 n).wI rfl 1 (jv_bI i)).wI rfl 2 (jv_bI true)).wI rfl 3 p).wI rfl 4 (jv_bI pb)).wI rfl 5 s).wI rfl 7 (nI 0)).wI rfl 9 (nI 0)).wL rfl 10 (0 : Int64)).wL rfl 11 (0 : Int64))).tr hFf, ?_, h13, h14⟩
      refine ⟨?_, ?_, ?_, ?_, ?_, ?_, ?_, ?_, ?_, ?_, fun j v e => by simp [m_tyN, mt_f] at e, fun j v e => by simp [m_tyN, mt_m] at e⟩
      · exact ((hIf 0 (by decide) (by decide)).trans (show jv_I (jv_wL (jv_wL (jv_wI (jv_wI (jv_wI (jv_wI (jv_wI (jv_wI (jv_wI (jv_wI h a 0 n) a 1 (jv_bI i)) a 2 (jv_bI true)) a 3 p) a 4 (jv_bI pb)) a 5 s) a 7 (nI 0)) a 9 (nI 0)) a 10 (0 : Int64)) a 11 (0 : Int64)) a 0 = n by simp [oI_o, jv_I_wL])).trans an.2
      · exact ((hIf 1 (by decide) (by decide)).trans (show jv_I (jv_wL (jv_wL (jv_wI (jv_wI (jv_wI (jv_wI (jv_wI (jv_wI (jv_wI (jv_wI h a 0 n) a 1 (jv_bI i)) a 2 (jv_bI true)) a 3 p) a 4 (jv_bI pb)) a 5 s) a 7 (nI 0)) a 9 (nI 0)) a 10 (0 : Int64)) a 11 (0 : Int64)) a 1 = jv_bI i by simp [oI_o, jv_I_wL]))
      · exact ((hIf 2 (by decide) (by decide)).trans (show jv_I (jv_wL (jv_wL (jv_wI (jv_wI (jv_wI (jv_wI (jv_wI (jv_wI (jv_wI (jv_wI h a 0 n) a 1 (jv_bI i)) a 2 (jv_bI true)) a 3 p) a 4 (jv_bI pb)) a 5 s) a 7 (nI 0)) a 9 (nI 0)) a 10 (0 : Int64)) a 11 (0 : Int64)) a 2 = jv_bI (i || ab) by simp [oI_o, jv_I_wL, c1, c5]))
      · exact ((hIf 3 (by decide) (by decide)).trans (show jv_I (jv_wL (jv_wL (jv_wI (jv_wI (jv_wI (jv_wI (jv_wI (jv_wI (jv_wI (jv_wI h a 0 n) a 1 (jv_bI i)) a 2 (jv_bI true)) a 3 p) a 4 (jv_bI pb)) a 5 s) a 7 (nI 0)) a 9 (nI 0)) a 10 (0 : Int64)) a 11 (0 : Int64)) a 3 = p by simp [oI_o, jv_I_wL])).trans ap.2
      · exact ((hIf 4 (by decide) (by decide)).trans (show jv_I (jv_wL (jv_wL (jv_wI (jv_wI (jv_wI (jv_wI (jv_wI (jv_wI (jv_wI (jv_wI h a 0 n) a 1 (jv_bI i)) a 2 (jv_bI true)) a 3 p) a 4 (jv_bI pb)) a 5 s) a 7 (nI 0)) a 9 (nI 0)) a 10 (0 : Int64)) a 11 (0 : Int64)) a 4 = jv_bI pb by simp [oI_o, jv_I_wL]))
      · exact ((hIf 5 (by decide) (by decide)).trans (show jv_I (jv_wL (jv_wL (jv_wI (jv_wI (jv_wI (jv_wI (jv_wI (jv_wI (jv_wI (jv_wI h a 0 n) a 1 (jv_bI i)) a 2 (jv_bI true)) a 3 p) a 4 (jv_bI pb)) a 5 s) a 7 (nI 0)) a 9 (nI 0)) a 10 (0 : Int64)) a 11 (0 : Int64)) a 5 = s by simp [oI_o, jv_I_wL])).trans as.1
      · exact ((hIf 7 (by decide) (by decide)).trans (show jv_I (jv_wL (jv_wL (jv_wI (jv_wI (jv_wI (jv_wI (jv_wI (jv_wI (jv_wI (jv_wI h a 0 n) a 1 (jv_bI i)) a 2 (jv_bI true)) a 3 p) a 4 (jv_bI pb)) a 5 s) a 7 (nI 0)) a 9 (nI 0)) a 10 (0 : Int64)) a 11 (0 : Int64)) a 7 = nI 0 by simp [oI_o, jv_I_wL]))
      · exact ((hIf 9 (by decide) (by decide)).trans (show jv_I (jv_wL (jv_wL (jv_wI (jv_wI (jv_wI (jv_wI (jv_wI (jv_wI (jv_wI (jv_wI h a 0 n) a 1 (jv_bI i)) a 2 (jv_bI true)) a 3 p) a 4 (jv_bI pb)) a 5 s) a 7 (nI 0)) a 9 (nI 0)) a 10 (0 : Int64)) a 11 (0 : Int64)) a 9 = nI 0 by simp [oI_o, jv_I_wL]))
      · exact (hLf 10).trans (show jv_L (jv_wL (jv_wL (jv_wI (jv_wI (jv_wI (jv_wI (jv_wI (jv_wI (jv_wI (jv_wI h a 0 n) a 1 (jv_bI i)) a 2 (jv_bI true)) a 3 p) a 4 (jv_bI pb)) a 5 s) a 7 (nI 0)) a 9 (nI 0)) a 10 (0 : Int64)) a 11 (0 : Int64)) a 10 = lN 0 by simp [oL_o, jv_L_wI]; rfl)
      · exact (hLf 11).trans (show jv_L (jv_wL (jv_wL (jv_wI (jv_wI (jv_wI (jv_wI (jv_wI (jv_wI (jv_wI (jv_wI h a 0 n) a 1 (jv_bI i)) a 2 (jv_bI true)) a 3 p) a 4 (jv_bI pb)) a 5 s) a 7 (nI 0)) a 9 (nI 0)) a 10 (0 : Int64)) a 11 (0 : Int64)) a 11 = lN 0 by simp [oL_o, jv_L_wI]; rfl)
