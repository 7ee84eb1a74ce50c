/-! HEAPS OF MY OWN (by address: a shape; whole numbers, longs, references by address and place), and the walk over them -/
abbrev jv_S : Type := Nat ⊕ (FieldType × Nat)
abbrev jv_H : Type := (Nat → Option jv_S) × (Nat → Nat → Int32) × (Nat → Nat → Int64) × (Nat → Nat → Option Nat)
abbrev jv_D : Type := (Nat → ClassId) × (Nat → Nat → Nat) × (FieldType → ClassId)
def jv_sh (h : jv_H) (a : Nat) : Option jv_S := h.1 a
def jv_I (h : jv_H) (a k : Nat) : Int32 := h.2.1 a k
def jv_L (h : jv_H) (a k : Nat) : Int64 := h.2.2.1 a k
def jv_P (h : jv_H) (a k : Nat) : Option Nat := h.2.2.2 a k
def jv_u {α : Type} (f : Nat → Nat → α) (a k : Nat) (v : α) : Nat → Nat → α := fun b j => if b = a ∧ j = k then v else f b j
def jv_wI (h : jv_H) (a k : Nat) (v : Int32) : jv_H := (h.1, jv_u h.2.1 a k v, h.2.2)
def jv_wL (h : jv_H) (a k : Nat) (v : Int64) : jv_H := (h.1, h.2.1, jv_u h.2.2.1 a k v, h.2.2.2)
def jv_wP (h : jv_H) (a k : Nat) (v : Option Nat) : jv_H := (h.1, h.2.1, h.2.2.1, jv_u h.2.2.2 a k v)
def jv_new (h : jv_H) (q : Nat) (sh : jv_S) : jv_H := (fun b => if b = q then some sh else h.1 b, fun b j => if b = q then 0 else h.2.1 b j, fun b j => if b = q then 0 else h.2.2.1 b j, fun b j => if b = q then none else h.2.2.2 b j)
/-- the value at a place, by its type -/
def jv_v (h : jv_H) (ty : FieldType) (a k : Nat) : Value := match ty with
  | .long => .long (jv_L h a k)
  | .object _ => va_rf (jv_P h a k)
  | .array _ => va_rf (jv_P h a k)
  | _ => .int (jv_I h a k)
def jv_fty (ci : Nat) : Nat → FieldType := match ci with
  | 0 => tyX0
  | 1 => tyX1
  | 2 => tyX2
  | 3 => tyX3
  | 4 => tyX4
  | 5 => tyX5
  | 6 => tyX6
  | 7 => tyX7
  | _ => tyX8
def jv_tys : List FieldType := [.int, .boolean, .long, .object "LinkArchive$Edition", .object "LinkArchive$Caller", .object "LinkArchive$Type", .object "LinkArchive$Member", .object "LinkArchive$Use"]
/-- a cell of the machine's heap holds what mine says -/
def jv_at (D : jv_D) (h : jv_H) (a : Nat) (sh : jv_S) (H : Heap) : Prop := match sh with
  | .inl ci => ∃ r : vw_C, vwCl[ci]? = some r ∧ t_OB a (D.1 ci) r.2.2 (D.2.1 ci) H (fun k => jv_v h (jv_fty ci k) a k)
  | .inr q => q.1 ∈ jv_tys ∧ H[a]? = some (arrV (D.2.2 q.1) q.2 (fun j => jv_v h q.1 a j))
def jv_R (D : jv_D) (base : Nat) (h : jv_H) (H : Heap) : Prop := ∀ (a : Nat) (sh : jv_S), jv_sh h a = some sh → base ≤ a ∧ jv_at D h a sh H
def jv_K (D : jv_D) (U : State) : Prop := (∀ (c : Nat) (q : vw_C), vwCl[c]? = some q → u_Kn U q.1 q.2.1 q.2.2 (D.1 c) (D.2.1 c)) ∧ ∀ ty ∈ jv_tys, ArrOfT U (D.2.2 ty) ty ∧ va_RA U (D.2.2 ty) ty
/-! what is carried beside: the Throwable's statics, the String constants, the words that go no other way -/
def jv_strs : List (Nat × String) := [(281, "there are all the editions"), (285, "no such edition"), (293, "the edition is open"), (290, "the edition is sealed"), (72, "no such name or package"), (77, "an interface has no super"), (83, "there is a type of that name"), (90, "the edition is full"), (295, "no such type"), (106, "no such name, or it has it already"), (111, "the type has all its interfaces"), (124, "a member cannot be so"), (130, "there is one already"), (135, "the type is full"), (177, "no such package"), (179, "no such class"), (184, "there are all the callers"), (297, "no such caller"), (194, "no such kind"), (199, "the caller has all its uses"), (299, "no such use"), (268, "no such difference")]
def jv_exs : List String := ["java/lang/IndexOutOfBoundsException", "java/lang/IllegalStateException", "java/lang/IllegalArgumentException", "java/lang/UnsupportedOperationException", "java/util/NoSuchElementException"]
def jv_oword (w : Cond) : Bool := match w with
  | .castable _ _ => true
  | .methodLinkNest _ _ _ _ => true
  | .declares _ => true
  | .arrayOver (.object _) => true
  | _ => false
def jv_oth : List Cond := lw_tbl.filter jv_oword
def jv_X (base : Nat) (U : State) (H : Heap) : Prop := vx_Zq Bundle.tN "UNASSIGNED_STACK" Bundle.steD (fun q => base ≤ q) U H ∧ vx_Zq Bundle.tN "SUPPRESSED_SENTINEL" Bundle.listD (fun q => base ≤ q) U H ∧ (∀ w ∈ jv_strs, ∃ sa, vk_R "LinkArchive" w.1 w.2 sa U) ∧ (∀ c ∈ jv_exs, ∀ t ∈ jv_exs, c ≠ t → va_Nc c t U) ∧ (∀ w ∈ jv_oth, va_Nw w U)
theorem jv_X.warm {base : Nat} {s U : State} {H : Heap} (hW : s.WarmedH U.vm) (x : jv_X base s H) : jv_X base U H := by
  obtain ⟨h1, h2, h3, h4, h5⟩ := x
  refine ⟨vx_Zq.moved hW.alike h1, vx_Zq.moved hW.alike h2, fun w hw => ?_, fun c hc t ht hn => va_Nc.moved hW.alike (h4 c hc t ht hn), fun w hw => ?_⟩
  · obtain ⟨sa, h⟩ := h3 w hw
    exact ⟨sa, vk_R.warm hW h⟩
  · have h6 := h5 w hw
    have h7 := (List.mem_filter.mp hw).2
    unfold jv_oword at h7
    split at h7
    · exact va_Nw.warmC hW h6
    · exact va_Nw.warmM hW h6
    · exact va_Nw.warmD hW h6
    · exact va_AO.moved hW.alike h6
    · cases h7
theorem jv_X.kept {base : Nat} {U : State} {H H1 : Heap} (x : jv_X base U H) (hq : ∀ a : Nat, a < H.size → ¬ base ≤ a → H1[a]? = H[a]?) : jv_X base U H1 := ⟨x.1.kept hq, x.2.1.kept hq, x.2.2⟩
/-- the words that each method has -/
def jv_TB : List Cond := lw_tbl.filter goodWord
/-- the walk's frame: program, launch, env, room, start, method, arguments, below, method, code, tables, the first address of ours -/
abbrev jv_E : Type := Program × Launch × Env × Room × State × MethodId × Array Value × List Frame × Method × Code × jv_D × Nat
abbrev jv_p (E : jv_E) : Program := E.1
abbrev jv_l (E : jv_E) : Launch := E.2.1
abbrev jv_e (E : jv_E) : Env := E.2.2.1
abbrev jv_rm (E : jv_E) : Room := E.2.2.2.1
abbrev jv_s (E : jv_E) : State := E.2.2.2.2.1
abbrev jv_m (E : jv_E) : MethodId := E.2.2.2.2.2.1
abbrev jv_a (E : jv_E) : Array Value := E.2.2.2.2.2.2.1
abbrev jv_b (E : jv_E) : List Frame := E.2.2.2.2.2.2.2.1
abbrev jv_mt (E : jv_E) : Method := E.2.2.2.2.2.2.2.2.1
abbrev jv_c (E : jv_E) : Code := E.2.2.2.2.2.2.2.2.2.1
abbrev jv_d (E : jv_E) : jv_D := E.2.2.2.2.2.2.2.2.2.2.1
abbrev jv_z (E : jv_E) : Nat := E.2.2.2.2.2.2.2.2.2.2.2
abbrev jv_W (E : jv_E) (H : Heap) (locs : List Loc) (cells slots : Nat) (Q : State → Prop) (g : JFrame) : Prop := W (jv_p E) (jv_l E) (jv_e E) (jv_rm E) (jv_s E) (jv_m E) (jv_a E) (jv_b E) (jv_mt E) (jv_c E) H locs cells slots Q g
def jv_C (E : jv_E) (cc : ByteArray) (own : String) (nL : Nat) : Prop := (jv_p E).tables.exec = Jvm.exec ∧ (jv_c E).code = cc ∧ (jv_c E).maxLocals = nL ∧ (jv_s E).vm.findClass own = some (jv_m E).cls ∧ (∀ w ∈ jv_TB, w.before (jv_a E) (jv_s E) = true) ∧ jv_K (jv_d E) (jv_s E) ∧ jv_z E ≤ (jv_s E).heap.size ∧ jv_X (jv_z E) (jv_s E) (jv_s E).heap ∧ (jv_l E).stackTraces = false ∧ (jv_mt E).locks = false
/-- from every machine's heap that holds h, with the locals lo and the stack st, the walk goes on from pc to Q -/
def jv_V (E : jv_E) (nL : Nat) (h : jv_H) (cells slots : Nat) (Q : State → Prop) (pc : Nat) (lo : List (Nat × Value)) (st : List Value) : Prop :=
  ∀ (H : Heap) (locs : List Loc) (ls : Array Slot), jv_R (jv_d E) (jv_z E) h H → va_S (fun q => jv_z E ≤ q) (jv_s E).heap H locs → lv_has ls nL lo → jv_W E H locs cells slots Q (F0 (jv_m E) pc ls st)
def jv_bI (b : Bool) : Int32 := if b then 1 else 0
theorem jv_bI_t : jv_bI true = 1 := rfl
theorem jv_bI_f : jv_bI false = 0 := rfl
theorem jv_bI_0 (b : Bool) : jv_bI b = 0 ↔ b = false := by cases b <;> decide
theorem jv_bI_n (b : Bool) : ¬ jv_bI b = 0 ↔ b = true := by cases b <;> decide
-- reading after writing
theorem jv_sh_wI (h : jv_H) (a k : Nat) (v : Int32) : jv_sh (jv_wI h a k v) = jv_sh h := rfl
theorem jv_sh_wL (h : jv_H) (a k : Nat) (v : Int64) : jv_sh (jv_wL h a k v) = jv_sh h := rfl
theorem jv_sh_wP (h : jv_H) (a k : Nat) (v : Option Nat) : jv_sh (jv_wP h a k v) = jv_sh h := rfl
theorem jv_I_wI (h : jv_H) (a k : Nat) (v : Int32) (b j : Nat) : jv_I (jv_wI h a k v) b j = if b = a ∧ j = k then v else jv_I h b j := rfl
theorem jv_I_wL (h : jv_H) (a k : Nat) (v : Int64) (b j : Nat) : jv_I (jv_wL h a k v) b j = jv_I h b j := rfl
theorem jv_I_wP (h : jv_H) (a k : Nat) (v : Option Nat) (b j : Nat) : jv_I (jv_wP h a k v) b j = jv_I h b j := rfl
theorem jv_L_wI (h : jv_H) (a k : Nat) (v : Int32) (b j : Nat) : jv_L (jv_wI h a k v) b j = jv_L h b j := rfl
theorem jv_L_wL (h : jv_H) (a k : Nat) (v : Int64) (b j : Nat) : jv_L (jv_wL h a k v) b j = if b = a ∧ j = k then v else jv_L h b j := rfl
theorem jv_L_wP (h : jv_H) (a k : Nat) (v : Option Nat) (b j : Nat) : jv_L (jv_wP h a k v) b j = jv_L h b j := rfl
theorem jv_P_wI (h : jv_H) (a k : Nat) (v : Int32) (b j : Nat) : jv_P (jv_wI h a k v) b j = jv_P h b j := rfl
theorem jv_P_wL (h : jv_H) (a k : Nat) (v : Int64) (b j : Nat) : jv_P (jv_wL h a k v) b j = jv_P h b j := rfl
theorem jv_P_wP (h : jv_H) (a k : Nat) (v : Option Nat) (b j : Nat) : jv_P (jv_wP h a k v) b j = if b = a ∧ j = k then v else jv_P h b j := rfl
theorem jv_sh_new (h : jv_H) (q : Nat) (sh : jv_S) (b : Nat) : jv_sh (jv_new h q sh) b = if b = q then some sh else jv_sh h b := rfl
theorem jv_I_new (h : jv_H) (q : Nat) (sh : jv_S) (b j : Nat) : jv_I (jv_new h q sh) b j = if b = q then 0 else jv_I h b j := rfl
theorem jv_L_new (h : jv_H) (q : Nat) (sh : jv_S) (b j : Nat) : jv_L (jv_new h q sh) b j = if b = q then 0 else jv_L h b j := rfl
theorem jv_P_new (h : jv_H) (q : Nat) (sh : jv_S) (b j : Nat) : jv_P (jv_new h q sh) b j = if b = q then none else jv_P h b j := rfl
/-- two heaps agree at an address -/
theorem jv_at.same {D : jv_D} {h h' : jv_H} {a : Nat} {sh : jv_S} {H H' : Heap} (x : jv_at D h a sh H) (hH : H'[a]? = H[a]?) (hv : ∀ ty k, jv_v h' ty a k = jv_v h ty a k) : jv_at D h' a sh H' := by
  cases sh with
  | inl ci =>
    obtain ⟨r, h1, h2⟩ := x
    exact ⟨r, h1, (h2.kept hH).to (fun k _ => (hv _ k).symm)⟩
  | inr q =>
    refine ⟨x.1, ?_⟩
    show H'[a]? = some (arrV (D.2.2 q.1) q.2 (fun j => jv_v h' q.1 a j))
    rw [hH, x.2]
    congr 2
    funext j
    exact (hv _ j).symm
theorem jv_at.lt {D : jv_D} {h : jv_H} {a : Nat} {sh : jv_S} {H : Heap} (x : jv_at D h a sh H) : a < H.size := by
  cases sh with
  | inl ci =>
    obtain ⟨r, -, cell, h1, -⟩ := x
    exact (Array.getElem?_eq_some_iff.mp h1).1
  | inr q => exact (Array.getElem?_eq_some_iff.mp x.2).1
theorem jv_R.lt {D : jv_D} {base : Nat} {h : jv_H} {H : Heap} (x : jv_R D base h H) {a : Nat} {sh : jv_S} (ha : jv_sh h a = some sh) : a < H.size := (x a sh ha).2.lt
theorem jv_R.kept {D : jv_D} {base : Nat} {h : jv_H} {H H' : Heap} (x : jv_R D base h H) (hq : ∀ q : Nat, q < H.size → H'[q]? = H[q]?) : jv_R D base h H' := fun a sh ha => ⟨(x a sh ha).1, (x a sh ha).2.same (hq a (x.lt ha)) (fun _ _ => rfl)⟩
theorem jv_K.moved {D : jv_D} {u U : State} (hvm : u.vm.Alike U.vm) (x : jv_K D u) : jv_K D U := by
  refine ⟨fun c q hc => u_Kn_moved hvm (x.1 c q hc), fun ty ht => ?_⟩
  obtain ⟨h1, h2⟩ := x.2 ty ht
  refine ⟨?_, va_RA.moved hvm h2⟩
  have h3 : va_K (D.1, D.2.1) [] [(D.2.2 ty, ty)] u := ⟨fun c q h => by simp at h, fun k q h => by
    have hz : k < 1 := (List.getElem?_eq_some_iff.mp h).1
    rw [show k = 0 by omega] at h
    cases h
    exact ⟨h1, h2⟩⟩
  exact ((va_K.moved hvm h3).2 0 _ rfl).1
