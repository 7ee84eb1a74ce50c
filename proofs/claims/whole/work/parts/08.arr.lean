section JVA
variable {E : jv_E} {cc : ByteArray} {own : String} {nL : Nat} {h h' : jv_H} {ce sl : Nat} {Q : State → Prop} {pc q : Nat} {lo : List (Nat × Value)} {st : List Value}
theorem jv_ty_int : FieldType.int ∈ jv_tys := by simp [jv_tys]
theorem jv_ty_bool : FieldType.boolean ∈ jv_tys := by simp [jv_tys]
theorem jv_ty_long : FieldType.long ∈ jv_tys := by simp [jv_tys]
-- loads
theorem jv_iald (G : jv_C E cc own nL) {a n j : Nat} {i v : Int32} (hd : decode cc pc = .ok (.iaload, 1)) (ha : jv_sh h a = some (.inr (.int, n))) (hi : i = nI j) (hj : j < n) (hn : n < 2 ^ 31) (hv : jv_I h a j = v) (hp : pc + 1 = q) (kk : jv_V E nL h ce sl Q q lo (.int v :: st)) : jv_V E nL h ce sl Q pc lo (.int i :: .ref a :: st) := by
  subst hp; subst hv; subst hi
  intro H locs ls hR hS hl
  have hc := (hR a _ ha).2.2
  refine W.iald (v := .int (jv_I h a j)) G.1 G.2.1 hc ((G.2.2.2.2.2.1.2 .int jv_ty_int).1 n _) (fun z => by cases z) (by show ¬ (nI j < 0 ∨ (arrV _ _ _).slots.size ≤ _); rw [arrV_size]; exact nI_in hj hn) (by show (arrV _ _ _).slots[_]? = _; rw [nI_clamp (by omega), arrV_read _ _ hj]; rfl) rfl rfl hd (kk H locs ls hR hS hl)
theorem jv_zald (G : jv_C E cc own nL) {a n j : Nat} {i v : Int32} (hd : decode cc pc = .ok (.baload, 1)) (ha : jv_sh h a = some (.inr (.boolean, n))) (hi : i = nI j) (hj : j < n) (hn : n < 2 ^ 31) (hv : jv_I h a j = v) (hp : pc + 1 = q) (kk : jv_V E nL h ce sl Q q lo (.int v :: st)) : jv_V E nL h ce sl Q pc lo (.int i :: .ref a :: st) := by
  subst hp; subst hv; subst hi
  intro H locs ls hR hS hl
  have hc := (hR a _ ha).2.2
  refine W.zald (v := .int (jv_I h a j)) G.1 G.2.1 hc ((G.2.2.2.2.2.1.2 .boolean jv_ty_bool).1 n _) (fun z => by cases z) (by show ¬ (nI j < 0 ∨ (arrV _ _ _).slots.size ≤ _); rw [arrV_size]; exact nI_in hj hn) (by show (arrV _ _ _).slots[_]? = _; rw [nI_clamp (by omega), arrV_read _ _ hj]; rfl) rfl rfl hd (kk H locs ls hR hS hl)
theorem jv_lald (G : jv_C E cc own nL) {a n j : Nat} {i : Int32} {v : Int64} (hd : decode cc pc = .ok (.laload, 1)) (ha : jv_sh h a = some (.inr (.long, n))) (hi : i = nI j) (hj : j < n) (hn : n < 2 ^ 31) (hv : jv_L h a j = v) (hp : pc + 1 = q) (kk : jv_V E nL h ce sl Q q lo (.long v :: st)) : jv_V E nL h ce sl Q pc lo (.int i :: .ref a :: st) := by
  subst hp; subst hv; subst hi
  intro H locs ls hR hS hl
  have hc := (hR a _ ha).2.2
  refine W.lald (v := .long (jv_L h a j)) G.1 G.2.1 hc ((G.2.2.2.2.2.1.2 .long jv_ty_long).1 n _) (fun z => by cases z) (by show ¬ (nI j < 0 ∨ (arrV _ _ _).slots.size ≤ _); rw [arrV_size]; exact nI_in hj hn) (by show (arrV _ _ _).slots[_]? = _; rw [nI_clamp (by omega), arrV_read _ _ hj]; rfl) rfl rfl hd (kk H locs ls hR hS hl)
theorem jv_aald (G : jv_C E cc own nL) {C : String} {a n j : Nat} {i : Int32} {v : Option Nat} (hd : decode cc pc = .ok (.aaload, 1)) (ha : jv_sh h a = some (.inr (.object C, n))) (hi : i = nI j) (hj : j < n) (hn : n < 2 ^ 31) (hv : jv_P h a j = v) (hp : pc + 1 = q) (kk : jv_V E nL h ce sl Q q lo (va_rf v :: st)) : jv_V E nL h ce sl Q pc lo (.int i :: .ref a :: st) := by
  subst hp; subst hv; subst hi
  intro H locs ls hR hS hl
  obtain ⟨ht, hc⟩ := (hR a _ ha).2
  refine W.aald (v := va_rf (jv_P h a j)) (ty := .object C) G.1 G.2.1 hc ((G.2.2.2.2.2.1.2 (.object C) ht).1 n _) rfl (fun z => by cases z) (by show ¬ (nI j < 0 ∨ (arrV _ _ _).slots.size ≤ _); rw [arrV_size]; exact nI_in hj hn) (by show (arrV _ _ _).slots[_]? = _; rw [nI_clamp (by omega), arrV_read _ _ hj]; rfl) rfl rfl hd (kk H locs ls hR hS hl)
theorem jv_aaldQ (G : jv_C E cc own nL) {C : String} {a n j : Nat} {i : Int32} {v : Nat} (hd : decode cc pc = .ok (.aaload, 1)) (ha : jv_sh h a = some (.inr (.object C, n))) (hi : i = nI j) (hj : j < n) (hn : n < 2 ^ 31) (hv : jv_P h a j = some v) (hp : pc + 1 = q) (kk : jv_V E nL h ce sl Q q lo (.ref v :: st)) : jv_V E nL h ce sl Q pc lo (.int i :: .ref a :: st) := jv_aald G hd ha hi hj hn hv hp kk
/-- the machine's heap behind a store in an array -/
theorem jv_R.ast {D : jv_D} {base : Nat} {H H' : Heap} {a n j : Nat} {ty : FieldType} {v : Value} (hR : jv_R D base h H) (ha : jv_sh h a = some (.inr (ty, n))) (x1 : H'[a]? = some ((arrV (D.2.2 ty) n (fun i => jv_v h ty a i)).setSlot j v)) (x3 : ∀ q, q ≠ a → H'[q]? = H[q]?)
    (e1 : jv_sh h' = jv_sh h) (e2 : ∀ ty b i, ¬ (b = a ∧ i = j) → jv_v h' ty b i = jv_v h ty b i) (e3 : jv_v h' ty a j = v) : jv_R D base h' H' := by
  intro b sh hb
  rw [e1] at hb
  refine ⟨(hR b sh hb).1, ?_⟩
  by_cases hba : b = a
  · subst hba
    cases Option.some.inj (ha.symm.trans hb)
    refine ⟨(hR b _ hb).2.1, ?_⟩
    show H'[b]? = some (arrV (D.2.2 ty) n (fun i => jv_v h' ty b i))
    rw [x1, arrV_store]
    congr 2
    funext i
    by_cases hij : i = j
    · subst hij
      simp only [updV, if_true, e3]
    · simp only [updV, if_neg hij]
      rw [e2 _ b i (fun z => hij z.2)]
  · exact (hR b sh hb).2.same (x3 b hba) (fun ty j => e2 ty b j (fun z => hba z.1))
theorem jv_vI {h : jv_H} {a k : Nat} {v : Int32} : ∀ ty b j, ¬ (b = a ∧ j = k) → jv_v (jv_wI h a k v) ty b j = jv_v h ty b j := by
  intro ty b j hn
  have e : jv_I (jv_wI h a k v) b j = jv_I h b j := by rw [jv_I_wI, if_neg hn]
  cases ty <;> first | rfl | exact congrArg Value.int e
theorem jv_vL {h : jv_H} {a k : Nat} {v : Int64} : ∀ ty b j, ¬ (b = a ∧ j = k) → jv_v (jv_wL h a k v) ty b j = jv_v h ty b j := by
  intro ty b j hn
  have e : jv_L (jv_wL h a k v) b j = jv_L h b j := by rw [jv_L_wL, if_neg hn]
  cases ty <;> first | rfl | exact congrArg Value.long e
theorem jv_vP {h : jv_H} {a k : Nat} {v : Option Nat} : ∀ ty b j, ¬ (b = a ∧ j = k) → jv_v (jv_wP h a k v) ty b j = jv_v h ty b j := by
  intro ty b j hn
  have e : jv_P (jv_wP h a k v) b j = jv_P h b j := by rw [jv_P_wP, if_neg hn]
  cases ty <;> first | rfl | exact congrArg va_rf e
theorem jv_I_self (h : jv_H) (a k : Nat) (v : Int32) : jv_I (jv_wI h a k v) a k = v := by rw [jv_I_wI, if_pos ⟨rfl, rfl⟩]
theorem jv_L_self (h : jv_H) (a k : Nat) (v : Int64) : jv_L (jv_wL h a k v) a k = v := by rw [jv_L_wL, if_pos ⟨rfl, rfl⟩]
theorem jv_P_self (h : jv_H) (a k : Nat) (v : Option Nat) : jv_P (jv_wP h a k v) a k = v := by rw [jv_P_wP, if_pos ⟨rfl, rfl⟩]
-- stores in arrays
theorem jv_iast (G : jv_C E cc own nL) {a n j : Nat} {i v : Int32} (hd : decode cc pc = .ok (.iastore, 1)) (ha : jv_sh h a = some (.inr (.int, n))) (hi : i = nI j) (hj : j < n) (hn : n < 2 ^ 31) (hp : pc + 1 = q) (kk : jv_V E nL (jv_wI h a j v) ce sl Q q lo st) : jv_V E nL h ce sl Q pc lo (.int v :: .int i :: .ref a :: st) := by
  subst hp; subst hi
  intro H locs ls hR hS hl
  have hc := (hR a _ ha).2.2
  refine W.iast G.1 G.2.1 hc ((G.2.2.2.2.2.1.2 .int jv_ty_int).1 n _) (fun z => by cases z) (by show ¬ (nI j < 0 ∨ (arrV _ _ _).slots.size ≤ _); rw [arrV_size]; exact nI_in hj hn) rfl rfl hd fun H1 e z oq => ?_
  rw [nI_clamp (by omega)] at e
  exact kk H1 _ ls (hR.ast ha e oq (jv_sh_wI h a j v) jv_vI (congrArg Value.int (jv_I_self h a j v))) (hS.put z oq (hR a _ ha).1) hl
theorem jv_zast (G : jv_C E cc own nL) {a n j : Nat} {i : Int32} {b : Bool} (hd : decode cc pc = .ok (.bastore, 1)) (ha : jv_sh h a = some (.inr (.boolean, n))) (hi : i = nI j) (hj : j < n) (hn : n < 2 ^ 31) (hp : pc + 1 = q) (kk : jv_V E nL (jv_wI h a j (jv_bI b)) ce sl Q q lo st) : jv_V E nL h ce sl Q pc lo (.int (jv_bI b) :: .int i :: .ref a :: st) := by
  subst hp; subst hi
  intro H locs ls hR hS hl
  have hc := (hR a _ ha).2.2
  refine W.zast G.1 G.2.1 hc ((G.2.2.2.2.2.1.2 .boolean jv_ty_bool).1 n _) (fun z => by cases z) (by show ¬ (nI j < 0 ∨ (arrV _ _ _).slots.size ≤ _); rw [arrV_size]; exact nI_in hj hn) rfl rfl hd fun H1 e z oq => ?_
  rw [nI_clamp (by omega)] at e
  have hnar : narrow .boolean (.int (jv_bI b)) = .int (jv_bI b) := by cases b <;> decide +kernel
  rw [hnar] at e
  exact kk H1 _ ls (hR.ast ha e oq (jv_sh_wI h a j _) jv_vI (congrArg Value.int (jv_I_self h a j _))) (hS.put z oq (hR a _ ha).1) hl
theorem jv_last (G : jv_C E cc own nL) {a n j : Nat} {i : Int32} {v : Int64} (hd : decode cc pc = .ok (.lastore, 1)) (ha : jv_sh h a = some (.inr (.long, n))) (hi : i = nI j) (hj : j < n) (hn : n < 2 ^ 31) (hp : pc + 1 = q) (kk : jv_V E nL (jv_wL h a j v) ce sl Q q lo st) : jv_V E nL h ce sl Q pc lo (.long v :: .int i :: .ref a :: st) := by
  subst hp; subst hi
  intro H locs ls hR hS hl
  have hc := (hR a _ ha).2.2
  refine W.last G.1 G.2.1 hc ((G.2.2.2.2.2.1.2 .long jv_ty_long).1 n _) (fun z => by cases z) (by show ¬ (nI j < 0 ∨ (arrV _ _ _).slots.size ≤ _); rw [arrV_size]; exact nI_in hj hn) rfl rfl hd fun H1 e z oq => ?_
  rw [nI_clamp (by omega)] at e
  exact kk H1 _ ls (hR.ast ha e oq (jv_sh_wL h a j v) jv_vL (congrArg Value.long (jv_L_self h a j v))) (hS.put z oq (hR a _ ha).1) hl
theorem jv_aast (G : jv_C E cc own nL) {ci : Nat} {r : vw_C} (hr : vwCl[ci]? = some r) {a n j v : Nat} {i : Int32} (hd : decode cc pc = .ok (.aastore, 1)) (ha : jv_sh h a = some (.inr (.object r.1, n))) (hv : jv_sh h v = some (.inl ci)) (hi : i = nI j) (hj : j < n) (hn : n < 2 ^ 31) (hp : pc + 1 = q) (kk : jv_V E nL (jv_wP h a j (some v)) ce sl Q q lo st) : jv_V E nL h ce sl Q pc lo (.ref v :: .int i :: .ref a :: st) := by
  subst hp; subst hi
  intro H locs ls hR hS hl
  obtain ⟨ht, hc⟩ := (hR a _ ha).2
  have hK := G.2.2.2.2.2.1
  obtain ⟨r', hr', cellV, g1, g2, g3, -⟩ := (hR v _ hv).2
  have hcls := (hK.1 ci r hr).2
  obtain ⟨kA, comp, k1, k2, k3, -⟩ := (hK.2 (.object r.1) ht).2
  have hcomp : comp = (jv_d E).1 ci := Option.some.inj (k3.symm.trans hcls.1)
  subst hcomp
  obtain ⟨kC, hkC, -⟩ := hcls.2
  have h0 : ¬ nI j < 0 := nI_pos (by omega)
  have hlt : (nI j).toNatClampNeg < n := by rw [nI_clamp (by omega)]; exact hj
  refine W.aast G.1 G.2.1 hc (fun q h => by cases h) (fun h => by cases h) k1 k2 rfl hkC ⟨h0, by show _ < (arrV _ _ _).slots.size; rw [arrV_size]; exact hlt⟩ g1 (fun q h => by rw [g3] at h; cases h) (by rw [g2]; exact hkC) (by rw [g2]; exact va_assign hcls) rfl rfl hd fun H1 e z oq => ?_
  rw [nI_clamp (by omega)] at e
  exact kk H1 _ ls (hR.ast ha e oq (jv_sh_wP h a j _) jv_vP (congrArg va_rf (jv_P_self h a j _))) (hS.put z oq (hR a _ ha).1) hl
theorem jv_aastN (G : jv_C E cc own nL) {C : String} {a n j : Nat} {i : Int32} (hd : decode cc pc = .ok (.aastore, 1)) (ha : jv_sh h a = some (.inr (.object C, n))) (hi : i = nI j) (hj : j < n) (hn : n < 2 ^ 31) (hp : pc + 1 = q) (kk : jv_V E nL (jv_wP h a j none) ce sl Q q lo st) : jv_V E nL h ce sl Q pc lo (.null :: .int i :: .ref a :: st) := by
  subst hp; subst hi
  intro H locs ls hR hS hl
  obtain ⟨ht, hc⟩ := (hR a _ ha).2
  refine va_WaastN (C := C) G.1 G.2.1 hc ((G.2.2.2.2.2.1.2 (.object C) ht).1 n _) (fun h => by cases h) (by show ¬ (nI j < 0 ∨ (arrV _ _ _).slots.size ≤ _); rw [arrV_size]; exact nI_in hj hn) rfl rfl hd fun H1 e z oq => ?_
  rw [nI_clamp (by omega)] at e
  exact kk H1 _ ls (hR.ast ha e oq (jv_sh_wP h a j _) jv_vP (congrArg va_rf (jv_P_self h a j _))) (hS.put z oq (hR a _ ha).1) hl
theorem jv_alen (G : jv_C E cc own nL) {a n : Nat} {ty : FieldType} {v : Int32} (hd : decode cc pc = .ok (.arraylength, 1)) (ha : jv_sh h a = some (.inr (ty, n))) (hv : nI n = v) (hp : pc + 1 = q) (kk : jv_V E nL h ce sl Q q lo (.int v :: st)) : jv_V E nL h ce sl Q pc lo (.ref a :: st) := by
  subst hp; subst hv
  intro H locs ls hR hS hl
  obtain ⟨ht, hc⟩ := (hR a _ ha).2
  exact W.alen (n := nI n) G.1 G.2.1 hc ((G.2.2.2.2.2.1.2 ty ht).1 n _) (by rw [arrV_size]; rfl) rfl rfl hd (kk H locs ls hR hS hl)
end JVA
