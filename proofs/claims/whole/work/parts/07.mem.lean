/-! words and classes -/
theorem jv_in {w : Cond} (h : w ∈ lw_tbl) (hg : goodWord w = true) : w ∈ jv_TB := List.mem_filter.mpr ⟨h, hg⟩
theorem jv_inx {l : List Cond} (h : l.all (fun w => decide (w ∈ lw_tbl) && goodWord w) = true) : ∀ w ∈ l, w ∈ jv_TB := fun w hw => by
  have h1 := List.all_eq_true.mp h w hw
  simp only [Bool.and_eq_true, decide_eq_true_eq] at h1
  exact jv_in h1.1 h1.2
theorem jv_ps {ws : List Cond} (ps : List Nat) (hp : ps.filterMap (fun i => lw_tbl[i]?) = ws) (hg : ws.all goodWord = true) : ∀ w ∈ ws, w ∈ jv_TB := fun w hw => by
  have h1 := List.all_eq_true.mp hg w hw
  rw [← hp] at hw
  obtain ⟨i, -, hi⟩ := List.mem_filterMap.mp hw
  exact jv_in (List.mem_of_getElem? hi) h1
theorem jv_p1 {w : Cond} (i : Nat) (hp : lw_tbl[i]? = some w) (hg : goodWord w = true) : w ∈ jv_TB := jv_in (List.mem_of_getElem? hp) hg
theorem jv_po {w : Cond} (i : Nat) (hp : lw_tbl[i]? = some w) (hg : jv_oword w = true) : w ∈ jv_oth := List.mem_filter.mpr ⟨List.mem_of_getElem? hp, hg⟩
theorem jv_TB_good : ∀ w ∈ jv_TB, (w.onTables && w.keeps) = true ∨ ∃ ty, w = .arrayClass ty := fun w hw => good_of_word (List.mem_filter.mp hw).2
theorem jv_i0 : ∀ w ∈ u_ws RX0 TX0 5, w ∈ jv_TB := jv_ps [186, 188, 190, 192, 194] (by decide +kernel) (by decide +kernel)
theorem jv_i1 : ∀ w ∈ u_ws RX1 TX1 10, w ∈ jv_TB := jv_ps [110, 112, 114, 116, 118, 120, 122, 124, 126, 128] (by decide +kernel) (by decide +kernel)
theorem jv_i2 : ∀ w ∈ u_ws RX2 TX2 5, w ∈ jv_TB := jv_ps [347, 349, 351, 353, 355] (by decide +kernel) (by decide +kernel)
theorem jv_i3 : ∀ w ∈ u_ws RX3 TX3 6, w ∈ jv_TB := jv_ps [246, 248, 250, 252, 254, 256] (by decide +kernel) (by decide +kernel)
theorem jv_i4 : ∀ w ∈ u_ws RX4 TX4 2, w ∈ jv_TB := jv_ps [201, 203] (by decide +kernel) (by decide +kernel)
theorem jv_i5 : ∀ w ∈ u_ws RX5 TX5 15, w ∈ jv_TB := jv_ps [304, 306, 308, 310, 312, 314, 316, 318, 320, 322, 324, 326, 328, 330, 332] (by decide +kernel) (by decide +kernel)
theorem jv_i6 : ∀ w ∈ u_ws RX6 TX6 6, w ∈ jv_TB := jv_ps [164, 166, 168, 170, 172, 174] (by decide +kernel) (by decide +kernel)
theorem jv_i7 : ∀ w ∈ u_ws RX7 TX7 7, w ∈ jv_TB := jv_ps [366, 368, 370, 372, 374, 376, 378] (by decide +kernel) (by decide +kernel)
theorem jv_i8 : ∀ w ∈ u_ws RX8 TX8 42, w ∈ jv_TB := jv_ps [1146, 1148, 1150, 1152, 1154, 1156, 1158, 1160, 1162, 1164, 1166, 1168, 1170, 1172, 1174, 1176, 1178, 1180, 1182, 1184, 1186, 1188, 1190, 1192, 1194, 1196, 1198, 1200, 1202, 1204, 1206, 1208, 1210, 1212, 1214, 1216, 1218, 1220, 1222, 1224, 1226, 1228] (by decide +kernel) (by decide +kernel)
def jv_clsOk (ci : Nat) (r : vw_C) : Prop := (∀ w ∈ u_ws r.1 r.2.1 r.2.2, w ∈ jv_TB) ∧ (∀ k, k < r.2.2 → parseFieldDescriptor (r.2.1 k).2.2.1 = some (jv_fty ci k)) ∧ (∀ a, a < r.2.2 → ∀ b, b < r.2.2 → a ≠ b → (r.2.1 a).2.1 ≠ (r.2.1 b).2.1)
theorem jv_cls (ci : Nat) (r : vw_C) (h : vwCl[ci]? = some r) : jv_clsOk ci r := by
  match ci, h with
  | 0, h => cases h; exact ⟨jv_i0, tyX0_ok, nmX0⟩
  | 1, h => cases h; exact ⟨jv_i1, tyX1_ok, nmX1⟩
  | 2, h => cases h; exact ⟨jv_i2, tyX2_ok, nmX2⟩
  | 3, h => cases h; exact ⟨jv_i3, tyX3_ok, nmX3⟩
  | 4, h => cases h; exact ⟨jv_i4, tyX4_ok, nmX4⟩
  | 5, h => cases h; exact ⟨jv_i5, tyX5_ok, nmX5⟩
  | 6, h => cases h; exact ⟨jv_i6, tyX6_ok, nmX6⟩
  | 7, h => cases h; exact ⟨jv_i7, tyX7_ok, nmX7⟩
  | 8, h => cases h; exact ⟨jv_i8, tyX8_ok, nmX8⟩
  | k + 9, h => simp [vwCl] at h
/-- a field's link: in the class own, entry idx is field k of class ci -/
def jv_F (own : String) (idx ci k : Nat) (fin : Bool) : Prop := ∃ r : vw_C, vwCl[ci]? = some r ∧ k < r.2.2 ∧ (r.2.1 k).2.2.2 = fin ∧ Cond.fieldLink own idx (r.2.1 k).1 (r.2.1 k).2.1 (r.2.1 k).2.2.1 ∈ jv_TB
theorem jv_apart {E : jv_E} {cc : ByteArray} {own : String} {nL : Nat} (G : jv_C E cc own nL) {ci : Nat} {r : vw_C} (hr : vwCl[ci]? = some r) : ∀ x y, x < r.2.2 → y < r.2.2 → x ≠ y → ((jv_d E).2.1 ci) x ≠ ((jv_d E).2.1 ci) y :=
  va_apart (D := ((jv_d E).1, (jv_d E).2.1)) (cl := vwCl) (tys := []) (own := own) G.2.2.2.2.1 (jv_cls ci r hr).1 (jv_fty ci) (jv_cls ci r hr).2.1 (jv_cls ci r hr).2.2 ⟨G.2.2.2.2.2.1.1, fun k q h => by simp at h⟩ hr
section JVM
variable {E : jv_E} {cc : ByteArray} {own : String} {nL : Nat} {h h' : jv_H} {ce sl : Nat} {Q : State → Prop} {pc q : Nat} {lo : List (Nat × Value)} {st : List Value}
theorem jv_get (G : jv_C E cc own nL) {idx ci k : Nat} {fin : Bool} {a : Nat} {v : Value} (hd : decode cc pc = .ok (.getfield idx, 3)) (hf : jv_F own idx ci k fin) (ha : jv_sh h a = some (.inl ci)) (hv : jv_v h (jv_fty ci k) a k = v) (hp : pc + 3 = q) (kk : jv_V E nL h ce sl Q q lo (v :: st)) : jv_V E nL h ce sl Q pc lo (.ref a :: st) := by
  subst hp; subst hv
  intro H locs ls hR hS hl
  obtain ⟨hx, hb, hml, hown, hts, hK, hz⟩ := G
  obtain ⟨r, hr, hk, -, hlk⟩ := hf
  obtain ⟨r', hr', cell, q1, q2, q3, q4⟩ := (hR a _ ha).2
  cases Option.some.inj (hr.symm.trans hr')
  obtain ⟨hS1, hfc, kC, hkC, hkind⟩ := hK.1 ci _ hr
  obtain ⟨cf, kf, fi, f, hi, hsl⟩ := hS1 k hk
  refine W.getf hx hb hown (hts _ hlk) hi (u_facts hfc hkC (u_lays hts (jv_cls ci _ hr).1 hk) hi).1 q1 (by rw [q3]; exact fun h => by cases h) ?_ rfl rfl hd (kk H locs ls hR hS hl)
  rw [hsl, q4 k hk]
/-- the machine's heap behind a store in an object -/
theorem jv_R.put {D : jv_D} {base : Nat} {H H' : Heap} {ci k a : Nat} {r : vw_C} {v : Value} {cell : Cell} (hR : jv_R D base h H) (ha : jv_sh h a = some (.inl ci)) (hr : vwCl[ci]? = some r) (hk : k < r.2.2) (hap : ∀ x y, x < r.2.2 → y < r.2.2 → x ≠ y → (D.2.1 ci) x ≠ (D.2.1 ci) y)
    (q2 : cell.cls = D.1 ci) (q3 : cell.vm = .none) (q4 : ∀ j, j < r.2.2 → cell.slots[D.2.1 ci j]? = some (jv_v h (jv_fty ci j) a j)) (x1 : H'[a]? = some (cell.setSlot (D.2.1 ci k) v)) (x3 : ∀ q, q ≠ a → H'[q]? = H[q]?)
    (e1 : jv_sh h' = jv_sh h) (e2 : ∀ ty b j, ¬ (b = a ∧ j = k) → jv_v h' ty b j = jv_v h ty b j) (e3 : jv_v h' (jv_fty ci k) a k = v) : jv_R D base h' H' := by
  intro b sh hb
  rw [e1] at hb
  refine ⟨(hR b sh hb).1, ?_⟩
  by_cases hba : b = a
  · subst hba
    cases Option.some.inj (ha.symm.trans hb)
    refine ⟨r, hr, _, x1, q2, q3, fun j hj => ?_⟩
    rw [t_set q4 hap hk v j hj]
    by_cases hjk : j = k
    · subst hjk
      simp only [updV, if_true, e3]
    · simp only [updV, if_neg hjk]
      rw [e2 _ b j (fun z => hjk z.2)]
  · exact (hR b sh hb).2.same (x3 b hba) (fun ty j => e2 ty b j (fun z => hba z.1))
theorem jv_put (G : jv_C E cc own nL) {idx ci k a : Nat} {v : Value} (hd : decode cc pc = .ok (.putfield idx, 3)) (hf : jv_F own idx ci k false) (ha : jv_sh h a = some (.inl ci)) (hn : narrow (jv_fty ci k) v = v) (hfit : fits (jv_fty ci k) v = true)
    (e1 : jv_sh h' = jv_sh h) (e2 : ∀ ty b j, ¬ (b = a ∧ j = k) → jv_v h' ty b j = jv_v h ty b j) (e3 : jv_v h' (jv_fty ci k) a k = v) (hp : pc + 3 = q) (kk : jv_V E nL h' ce sl Q q lo st) : jv_V E nL h ce sl Q pc lo (v :: .ref a :: st) := by
  subst hp
  intro H locs ls hR hS hl
  obtain ⟨r, hr, hk, hfin, hlk⟩ := hf
  have hap := jv_apart G hr
  obtain ⟨hx, hb, hml, hown, hts, hK, hz⟩ := G
  have hba := (hR a _ ha).1
  obtain ⟨r', hr', cell, q1, q2, q3, q4⟩ := (hR a _ ha).2
  cases Option.some.inj (hr.symm.trans hr')
  obtain ⟨hS1, hfc, kC, hkC, hkind⟩ := hK.1 ci _ hr
  obtain ⟨cf, kf, fi, f, hi, hsl⟩ := hS1 k hk
  have hlay := hts _ ((jv_cls ci _ hr).1 _ (u_in_lay hk))
  unfold u_lay at hlay
  rw [if_neg (by rw [hfin]; decide)] at hlay
  have hst := (u_facts hfc hkC (u_lays hts (jv_cls ci _ hr).1 hk) hi).1
  have h6 := u_store hfc hkC hkind hlay hi ((jv_cls ci _ hr).2.1 k hk) hn hfit
  refine W.putK hx hb (f := f) ⟨hown, hts _ hlk, ⟨_, _, _, hi⟩, hst⟩ (by rw [q2]; exact h6) q1 q3 (by rw [hsl]; exact k2_hasslot (q4 k hk)) rfl rfl hd fun H' x1 x2 x3 => ?_
  rw [hsl] at x1
  exact kk H' _ ls (hR.put ha hr hk hap q2 q3 q4 x1 x3 e1 e2 e3) (hS.put x2 x3 hba) hl
theorem jv_putF (G : jv_C E cc own nL) (hnm : (jv_mt E).name = "<init>") {idx ci k a : Nat} {v : Value} (hd : decode cc pc = .ok (.putfield idx, 3)) (hf : jv_F own idx ci k true) (hdecl : ∀ r : vw_C, vwCl[ci]? = some r → (r.2.1 k).1 = own) (ha : jv_sh h a = some (.inl ci)) (hn : narrow (jv_fty ci k) v = v) (hfit : fits (jv_fty ci k) v = true)
    (e1 : jv_sh h' = jv_sh h) (e2 : ∀ ty b j, ¬ (b = a ∧ j = k) → jv_v h' ty b j = jv_v h ty b j) (e3 : jv_v h' (jv_fty ci k) a k = v) (hp : pc + 3 = q) (kk : jv_V E nL h' ce sl Q q lo st) : jv_V E nL h ce sl Q pc lo (v :: .ref a :: st) := by
  subst hp
  intro H locs ls hR hS hl
  obtain ⟨r, hr, hk, hfin, hlk⟩ := hf
  have hdecl := hdecl r hr
  have hap := jv_apart G hr
  obtain ⟨hx, hb, hml, hown, hts, hK, hz⟩ := G
  have hba := (hR a _ ha).1
  obtain ⟨r', hr', cell, q1, q2, q3, q4⟩ := (hR a _ ha).2
  cases Option.some.inj (hr.symm.trans hr')
  obtain ⟨hS1, hfc, kC, hkC, hkind⟩ := hK.1 ci _ hr
  obtain ⟨cf, kf, fi, f, hi, hsl⟩ := hS1 k hk
  have hlay := hts _ ((jv_cls ci _ hr).1 _ (u_in_lay hk))
  unfold u_lay at hlay
  rw [if_pos hfin] at hlay
  have hst := (u_facts hfc hkC (u_lays hts (jv_cls ci _ hr).1 hk) hi).1
  have hcf : (jv_m E).cls = cf := by
    obtain ⟨_, _, c', _, _, _, -, -, hf', -, -, -, hown2, -⟩ := Cond.laysFinal_spec hlay
    have e1 : c' = cf := by have := hi.symm.trans hf'; simp at this; exact this.1.symm
    rw [hdecl] at hown2
    rw [← e1]; exact Option.some.inj (hown.symm.trans hown2)
  have h6 := u_fits hfc hkC hkind (Or.inr hlay) hi ((jv_cls ci _ hr).2.1 k hk) hn hfit
  refine W.putFinK hx hb hown (hts _ hlk) hi hst hcf hnm (by rw [q2]; exact h6) q1 q3 (by rw [hsl]; exact k2_hasslot (q4 k hk)) rfl rfl hd fun H' x1 x2 x3 => ?_
  rw [hsl] at x1
  exact kk H' _ ls (hR.put ha hr hk hap q2 q3 q4 x1 x3 e1 e2 e3) (hS.put x2 x3 hba) hl
end JVM
