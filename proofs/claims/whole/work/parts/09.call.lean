section JVN
variable {E : jv_E} {cc : ByteArray} {own : String} {nL : Nat} {h h' : jv_H} {ce sl : Nat} {Q : State → Prop} {pc q : Nat} {lo : List (Nat × Value)} {st : List Value}
-- fields by their kind
theorem jv_getI (G : jv_C E cc own nL) {idx ci k : Nat} {fin : Bool} {a : Nat} {v : Int32} (hd : decode cc pc = .ok (.getfield idx, 3)) (hf : jv_F own idx ci k fin) (ht : jv_fty ci k = .int) (ha : jv_sh h a = some (.inl ci)) (hv : jv_I h a k = v) (hp : pc + 3 = q) (kk : jv_V E nL h ce sl Q q lo (.int v :: st)) : jv_V E nL h ce sl Q pc lo (.ref a :: st) := jv_get G hd hf ha (by rw [ht, ← hv]; rfl) hp kk
theorem jv_getZ (G : jv_C E cc own nL) {idx ci k : Nat} {fin : Bool} {a : Nat} {v : Int32} (hd : decode cc pc = .ok (.getfield idx, 3)) (hf : jv_F own idx ci k fin) (ht : jv_fty ci k = .boolean) (ha : jv_sh h a = some (.inl ci)) (hv : jv_I h a k = v) (hp : pc + 3 = q) (kk : jv_V E nL h ce sl Q q lo (.int v :: st)) : jv_V E nL h ce sl Q pc lo (.ref a :: st) := jv_get G hd hf ha (by rw [ht, ← hv]; rfl) hp kk
theorem jv_getL (G : jv_C E cc own nL) {idx ci k : Nat} {fin : Bool} {a : Nat} {v : Int64} (hd : decode cc pc = .ok (.getfield idx, 3)) (hf : jv_F own idx ci k fin) (ht : jv_fty ci k = .long) (ha : jv_sh h a = some (.inl ci)) (hv : jv_L h a k = v) (hp : pc + 3 = q) (kk : jv_V E nL h ce sl Q q lo (.long v :: st)) : jv_V E nL h ce sl Q pc lo (.ref a :: st) := jv_get G hd hf ha (by rw [ht, ← hv]; rfl) hp kk
theorem jv_isR (h : jv_H) {ty : FieldType} (ht : ty.isReference = true) (a k : Nat) : jv_v h ty a k = va_rf (jv_P h a k) := by
  cases ty <;> first | rfl | cases ht
theorem jv_getR (G : jv_C E cc own nL) {idx ci k : Nat} {fin : Bool} {a : Nat} {v : Option Nat} (hd : decode cc pc = .ok (.getfield idx, 3)) (hf : jv_F own idx ci k fin) (ht : (jv_fty ci k).isReference = true) (ha : jv_sh h a = some (.inl ci)) (hv : jv_P h a k = v) (hp : pc + 3 = q) (kk : jv_V E nL h ce sl Q q lo (va_rf v :: st)) : jv_V E nL h ce sl Q pc lo (.ref a :: st) := jv_get G hd hf ha (by rw [jv_isR h ht, hv]) hp kk
theorem jv_getQ (G : jv_C E cc own nL) {idx ci k : Nat} {fin : Bool} {a : Nat} {v : Nat} (hd : decode cc pc = .ok (.getfield idx, 3)) (hf : jv_F own idx ci k fin) (ht : (jv_fty ci k).isReference = true) (ha : jv_sh h a = some (.inl ci)) (hv : jv_P h a k = some v) (hp : pc + 3 = q) (kk : jv_V E nL h ce sl Q q lo (.ref v :: st)) : jv_V E nL h ce sl Q pc lo (.ref a :: st) := jv_getR G hd hf ht ha hv hp kk
theorem jv_putI (G : jv_C E cc own nL) {idx ci k a : Nat} {v : Int32} (hd : decode cc pc = .ok (.putfield idx, 3)) (hf : jv_F own idx ci k false) (ht : jv_fty ci k = .int) (ha : jv_sh h a = some (.inl ci)) (hp : pc + 3 = q) (kk : jv_V E nL (jv_wI h a k v) ce sl Q q lo st) : jv_V E nL h ce sl Q pc lo (.int v :: .ref a :: st) :=
  jv_put G hd hf ha (by rw [ht]; rfl) (by rw [ht]; rfl) (jv_sh_wI h a k v) jv_vI (by rw [ht]; exact congrArg Value.int (jv_I_self h a k v)) hp kk
theorem jv_putZ (G : jv_C E cc own nL) {idx ci k a : Nat} {b : Bool} (hd : decode cc pc = .ok (.putfield idx, 3)) (hf : jv_F own idx ci k false) (ht : jv_fty ci k = .boolean) (ha : jv_sh h a = some (.inl ci)) (hp : pc + 3 = q) (kk : jv_V E nL (jv_wI h a k (jv_bI b)) ce sl Q q lo st) : jv_V E nL h ce sl Q pc lo (.int (jv_bI b) :: .ref a :: st) :=
  jv_put G hd hf ha (by rw [ht]; cases b <;> decide +kernel) (by rw [ht]; cases b <;> decide +kernel) (jv_sh_wI h a k _) jv_vI (by rw [ht]; exact congrArg Value.int (jv_I_self h a k _)) hp kk
theorem jv_putL (G : jv_C E cc own nL) {idx ci k a : Nat} {v : Int64} (hd : decode cc pc = .ok (.putfield idx, 3)) (hf : jv_F own idx ci k false) (ht : jv_fty ci k = .long) (ha : jv_sh h a = some (.inl ci)) (hp : pc + 3 = q) (kk : jv_V E nL (jv_wL h a k v) ce sl Q q lo st) : jv_V E nL h ce sl Q pc lo (.long v :: .ref a :: st) :=
  jv_put G hd hf ha (by rw [ht]; rfl) (by rw [ht]; rfl) (jv_sh_wL h a k v) jv_vL (by rw [ht]; exact congrArg Value.long (jv_L_self h a k v)) hp kk
theorem jv_nar_r {ty : FieldType} (ht : ty.isReference = true) (v : Nat) : narrow ty (.ref v) = .ref v ∧ fits ty (.ref v) = true := by
  cases ty <;> first | exact ⟨rfl, rfl⟩ | cases ht
theorem jv_putFQ (G : jv_C E cc own nL) (hnm : (jv_mt E).name = "<init>") {idx ci k a v : Nat} (hd : decode cc pc = .ok (.putfield idx, 3)) (hf : jv_F own idx ci k true) (hdecl : ∀ r : vw_C, vwCl[ci]? = some r → (r.2.1 k).1 = own) (ht : (jv_fty ci k).isReference = true) (ha : jv_sh h a = some (.inl ci)) (hp : pc + 3 = q) (kk : jv_V E nL (jv_wP h a k (some v)) ce sl Q q lo st) : jv_V E nL h ce sl Q pc lo (.ref v :: .ref a :: st) :=
  jv_putF G hnm hd hf hdecl ha (jv_nar_r ht v).1 (jv_nar_r ht v).2 (jv_sh_wP h a k _) jv_vP (by rw [jv_isR _ ht, jv_P_self]; rfl) hp kk
theorem jv_putFI (G : jv_C E cc own nL) (hnm : (jv_mt E).name = "<init>") {idx ci k a : Nat} {v : Int32} (hd : decode cc pc = .ok (.putfield idx, 3)) (hf : jv_F own idx ci k true) (hdecl : ∀ r : vw_C, vwCl[ci]? = some r → (r.2.1 k).1 = own) (ht : jv_fty ci k = .int) (ha : jv_sh h a = some (.inl ci)) (hp : pc + 3 = q) (kk : jv_V E nL (jv_wI h a k v) ce sl Q q lo st) : jv_V E nL h ce sl Q pc lo (.int v :: .ref a :: st) :=
  jv_putF G hnm hd hf hdecl ha (by rw [ht]; rfl) (by rw [ht]; rfl) (jv_sh_wI h a k v) jv_vI (by rw [ht]; exact congrArg Value.int (jv_I_self h a k v)) hp kk
-- new cells
theorem jv_R.new {D : jv_D} {base : Nat} {H H' : Heap} {a : Nat} {sh : jv_S} (hR : jv_R D base h H) (ha : a = H.size) (hb : base ≤ a) (hk : ∀ q, q < H.size → H'[q]? = H[q]?) (hn : jv_at D (jv_new h a sh) a sh H') : jv_R D base (jv_new h a sh) H' := by
  intro b s2 hs
  by_cases hba : b = a
  · subst hba
    rw [jv_sh_new, if_pos rfl] at hs
    cases hs
    exact ⟨hb, hn⟩
  · rw [jv_sh_new, if_neg hba] at hs
    refine ⟨(hR b s2 hs).1, (hR b s2 hs).2.same (hk b (hR.lt hs)) (fun ty k => ?_)⟩
    have e1 : jv_I (jv_new h a sh) b k = jv_I h b k := by rw [jv_I_new, if_neg hba]
    have e2 : jv_L (jv_new h a sh) b k = jv_L h b k := by rw [jv_L_new, if_neg hba]
    have e3 : jv_P (jv_new h a sh) b k = jv_P h b k := by rw [jv_P_new, if_neg hba]
    cases ty <;> first | exact congrArg Value.int e1 | exact congrArg Value.long e2 | exact congrArg va_rf e3
theorem jv_fresh {D : jv_D} {base : Nat} {H : Heap} (hR : jv_R D base h H) : jv_sh h H.size = none := by
  cases e : jv_sh h H.size with
  | none => rfl
  | some sh => exact absurd (hR.lt e) (Nat.lt_irrefl _)
theorem jv_defv {ty : FieldType} (h : jv_H) (q : Nat) (sh : jv_S) (k : Nat) (hf : ty ≠ .float ∧ ty ≠ .double) : jv_v (jv_new h q sh) ty q k = defaultValue ty := by
  have e1 : jv_I (jv_new h q sh) q k = 0 := by rw [jv_I_new, if_pos rfl]
  have e2 : jv_L (jv_new h q sh) q k = 0 := by rw [jv_L_new, if_pos rfl]
  have e3 : jv_P (jv_new h q sh) q k = none := by rw [jv_P_new, if_pos rfl]
  cases ty <;> first | exact absurd rfl hf.1 | exact absurd rfl hf.2 | exact congrArg Value.int e1 | exact congrArg Value.long e2 | exact congrArg va_rf e3
/-- a class's link for 'new': the entry, that it can be made, its slots -/
def jv_N (own : String) (idx ci : Nat) (r : vw_C) : Prop := vwCl[ci]? = some r ∧ (∀ w ∈ ([.classLink own idx r.1, .instantiable r.1 r.2.2, .initialized r.1] : List Cond), w ∈ jv_TB) ∧ ∀ k, k < r.2.2 → jv_fty ci k ≠ .float ∧ jv_fty ci k ≠ .double
theorem jv_newc (G : jv_C E cc own nL) {idx ci N : Nat} {r : vw_C} (hd : decode cc pc = .ok (.new idx, 3)) (hf : jv_N own idx ci r) (hN : r.2.2 = N) (hc : ce + 1 ≤ (jv_rm E).cells) (hs : sl + N ≤ (jv_rm E).slots) (hp : pc + 3 = q) (kk : ∀ a, jv_sh h a = none → jv_V E nL (jv_new h a (.inl ci)) (ce + 1) (sl + N) Q q lo (.ref a :: st)) : jv_V E nL h ce sl Q pc lo st := by
  subst hp; subst hN
  intro H locs ls hR hS hl
  obtain ⟨hr, hws, hfl⟩ := hf
  have hts := G.2.2.2.2.1
  have hKn := G.2.2.2.2.2.1.1 ci r hr
  refine W.newcK G.1 G.2.1 G.2.2.2.1 (hts _ (hws _ (by simp))) (hts _ (hws _ (by simp))) (hts _ (hws _ (by simp))) rfl hd hc hs hKn.2.1 rfl fun H1 kC hkC e1 z1 o1 => ?_
  refine kk H.size (jv_fresh hR) H1 locs ls (hR.new rfl (Nat.le_trans G.2.2.2.2.2.2.1 hS.1) o1 ?_) ⟨Nat.le_trans hS.1 (by omega), fun x h1 h2 => (o1 x (Nat.lt_of_lt_of_le h1 hS.1)).trans (hS.2.1 x h1 h2), hS.2.2⟩ hl
  exact ⟨r, hr, (u_born (jv_fty ci) hts (jv_cls ci r hr).1 hKn hkC e1 (jv_cls ci r hr).2.1).to (fun k hk => (jv_defv h H.size _ k (hfl k hk)).symm)⟩
theorem jv_newa (G : jv_C E cc own nL) {atype : ArrayType} {ty : FieldType} {n : Int32} {N : Nat} (hd : decode cc pc = .ok (.newarray atype, 2)) (hty : newarray.typeOf atype = ty) (hin : ty ∈ jv_tys) (hpr : ty.isReference = false ∧ ty ≠ .float ∧ ty ≠ .double) (hw : Cond.arrayClass ty ∈ jv_TB) (hn : n = nI N) (hN : N ≤ 65536) (hc : ce + 1 ≤ (jv_rm E).cells) (hs : sl + N ≤ (jv_rm E).slots) (hp : pc + 2 = q) (kk : ∀ a, jv_sh h a = none → jv_V E nL (jv_new h a (.inr (ty, N))) (ce + 1) (sl + N) Q q lo (.ref a :: st)) : jv_V E nL h ce sl Q pc lo (.int n :: st) := by
  subst hp; subst hn; subst hty
  intro H locs ls hR hS hl
  have hcb : componentBytes (newarray.typeOf atype) ≤ 8 := by cases atype <;> decide
  refine va_newaK G.1 G.2.1 (G.2.2.2.2.1 _ hw) rfl hd rfl (nI_pos (by omega)) (nI_clamp (by omega)) (Nat.le_trans (Nat.mul_le_mul hN hcb) (by decide)) hc hs rfl fun H1 cA e1 z1 o1 hAr hNm => ?_
  have hcA : (jv_d E).2.2 (newarray.typeOf atype) = cA := by
    have h9 := (G.2.2.2.2.2.1.2 _ hin).2
    have h8 : (jv_s E).vm.findClass ("[" ++ (newarray.typeOf atype).toString) = some ((jv_d E).2.2 (newarray.typeOf atype)) := by
      cases atype <;> exact h9
    exact Option.some.inj (h8.symm.trans hNm)
  refine kk H.size (jv_fresh hR) H1 locs ls (hR.new rfl (Nat.le_trans G.2.2.2.2.2.2.1 hS.1) o1 ⟨hin, ?_⟩) ⟨Nat.le_trans hS.1 (by omega), fun x h1 h2 => (o1 x (Nat.lt_of_lt_of_le h1 hS.1)).trans (hS.2.1 x h1 h2), hS.2.2⟩ hl
  show H1[H.size]? = some (arrV ((jv_d E).2.2 (newarray.typeOf atype)) N _)
  rw [e1, hcA]
  congr 2
  funext j
  exact (jv_defv h H.size _ j hpr.2).symm
theorem jv_anew (G : jv_C E cc own nL) {idx : Nat} {C : String} {n : Int32} {N : Nat} (hd : decode cc pc = .ok (.anewarray idx, 3)) (hin : FieldType.object C ∈ jv_tys) (hw : Cond.classLink own idx C ∈ jv_TB) (hw2 : Cond.arrayOver (.object C) ∈ jv_oth) (hn : n = nI N) (hN : N ≤ 65536) (hc : ce + 1 ≤ (jv_rm E).cells) (hs : sl + N ≤ (jv_rm E).slots) (hp : pc + 3 = q) (kk : ∀ a, jv_sh h a = none → jv_V E nL (jv_new h a (.inr (.object C, N))) (ce + 1) (sl + N) Q q lo (.ref a :: st)) : jv_V E nL h ce sl Q pc lo (.int n :: st) := by
  subst hp; subst hn
  intro H locs ls hR hS hl
  have hcl : (nI N).toNatClampNeg = N := nI_clamp (by omega)
  have hover : va_AO C (jv_s E) := G.2.2.2.2.2.2.2.1.2.2.2.2 _ hw2
  refine W.anew G.1 G.2.1 G.2.2.2.1 (G.2.2.2.2.1 _ hw) (va_AO.use hover) rfl hd rfl (nI_pos (by omega)) (by rw [hcl]; omega) hc (by rw [hcl]; exact hs) fun cA kA comp f1 f2 f3 f4 => ?_
  rw [hcl]
  generalize hH1 : H.push ({ cls := cA, slots := Array.replicate N .null, vm := .none } : Cell) = H1
  have z1 : H1.size = H.size + 1 := by rw [← hH1, Array.size_push]
  have e1 : H1[H.size]? = some (arrV cA N (fun _ => .null)) := by rw [← hH1, Array.getElem?_push_size, ← arrV_new]
  have o1 : ∀ q : Nat, q < H.size → H1[q]? = H[q]? := fun q hq => by rw [← hH1, Array.getElem?_push, if_neg (Nat.ne_of_lt hq)]
  have hcA : (jv_d E).2.2 (.object C) = cA := by
    obtain ⟨_, _, -, -, -, h8⟩ := (G.2.2.2.2.2.1.2 _ hin).2
    exact Option.some.inj (h8.symm.trans f1)
  refine kk H.size (jv_fresh hR) H1 locs ls (hR.new rfl (Nat.le_trans G.2.2.2.2.2.2.1 hS.1) o1 ⟨hin, ?_⟩) ⟨Nat.le_trans hS.1 (by omega), fun x h1 h2 => (o1 x (Nat.lt_of_lt_of_le h1 hS.1)).trans (hS.2.1 x h1 h2), hS.2.2⟩ hl
  show H1[H.size]? = some (arrV ((jv_d E).2.2 (.object C)) N _)
  rw [e1, hcA]
  congr 2
  funext j
  exact (jv_defv (ty := .object C) h H.size _ j ⟨by simp, by simp⟩).symm
/-- Object's own constructor -/
theorem jv_objInit (G : jv_C E cc own nL) {idx a : Nat} (hd : decode cc pc = .ok (.invokespecial idx, 3)) (hw : ∀ w ∈ ([.methodLink own idx objectInit, .instanceMethod objectInit, .code objectInit ⟨#[0xb1]⟩ 1 none] : List Cond), w ∈ jv_TB) (hf : 1 ≤ (jv_rm E).frames) (hl2 : 20 ≤ (jv_rm E).locals) (hst : (st.map fun v => v.category).sum ≤ 8) (hp : pc + 3 = q) (kk : jv_V E nL h ce sl Q q lo st) : jv_V E nL h ce sl Q pc lo (.ref a :: st) := by
  subst hp
  intro H locs ls hR hS hl
  have hts := G.2.2.2.2.1
  refine W.objInit G.1 G.2.1 G.2.2.2.1 (hts _ (hw _ (by simp))) (hts _ (hw _ (by simp))) (hts _ (hw _ (by simp))) rfl (by rw [G.2.2.1]; exact hl.1) rfl hd hf ?_ (kk H locs ls hR hS hl)
  have h9 : 2 * (F0 (jv_m E) pc ls (.ref a :: st)).monitorRoom + (st.map fun v => v.category).sum ≤ 8 := lv_room hst
  omega
end JVN
