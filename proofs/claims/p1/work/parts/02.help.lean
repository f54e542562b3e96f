/-! ONE LIST OF WORDS for all contracts -/
def lw_all : List Cond := lw_tbl.filter goodWord
abbrev ws_ (y : MethodName) (c : ByteArray) (n : Nat) (r : Option FieldType) : List Cond := .code y c n r :: lw_all
theorem in_all (ws : List Cond) (ps : List Nat) (hp : ws = ps.filterMap (fun i => lw_tbl[i]?)) (h : ws.all goodWord = true) : ∀ w ∈ ws, w ∈ lw_all := by
  intro w hw
  have h1 := List.all_eq_true.mp h w hw
  rw [hp] at hw
  obtain ⟨i, -, hi⟩ := List.mem_filterMap.mp hw
  exact List.mem_filter.mpr ⟨List.mem_of_getElem? hi, h1⟩
theorem all_good : GoodIn lw_all lw_all := fun w h => ⟨h, good_of_word (List.mem_filter.mp h).2⟩
theorem gI {y : MethodName} {c : ByteArray} {n : Nat} {r : Option FieldType} (h5 : Cond.code y c n r ∈ lw_all) : GoodIn lw_all (ws_ y c n r) := by
  intro w h
  rcases List.mem_cons.mp h with h | h
  · rw [h]
    exact all_good _ h5
  · exact all_good w h
theorem gV {own C : String} {idx : Nat} {y : MethodName} {c : ByteArray} {n : Nat} {r : Option FieldType} (h1 : Cond.methodLink own idx y ∈ lw_all) (h2 : Cond.instanceMethod y ∈ lw_all) (h3 : Cond.selects C y y ∈ lw_all) (h4 : Cond.initialized C ∈ lw_all) (h5 : Cond.code y c n r ∈ lw_all) : GoodIn lw_all (wsV own idx C y (ws_ y c n r)) := by
  intro w h
  unfold wsV at h
  rcases List.mem_append.mp h with h | h
  · simp only [List.mem_cons, List.not_mem_nil, or_false] at h
    rcases h with h | h | h | h
    · rw [h]; exact all_good _ h1
    · rw [h]; exact all_good _ h2
    · rw [h]; exact all_good _ h3
    · rw [h]; exact all_good _ h4
  · exact gI h5 w h
theorem gS {own : String} {idx : Nat} {y : MethodName} {c : ByteArray} {n : Nat} {r : Option FieldType} (h1 : Cond.methodLink own idx y ∈ lw_all) (h2 : Cond.static y ∈ lw_all) (h4 : Cond.initialized y.cls ∈ lw_all) (h5 : Cond.code y c n r ∈ lw_all) : GoodIn lw_all (va_wsS own idx y (ws_ y c n r)) := by
  intro w h
  unfold va_wsS at h
  rcases List.mem_append.mp h with h | h
  · simp only [List.mem_cons, List.not_mem_nil, or_false] at h
    rcases h with h | h | h
    · rw [h]; exact all_good _ h1
    · rw [h]; exact all_good _ h2
    · rw [h]; exact all_good _ h4
  · exact gI h5 w h
set_option maxRecDepth 100000 in
theorem in_X0 : ∀ w ∈ wsX00, w ∈ lw_all := in_all _ [289, 291, 293, 295, 297, 299, 301, 303, 305, 307, 309, 311, 313] (by decide +kernel) (by decide +kernel)
set_option maxRecDepth 100000 in
theorem dfX0 : ∀ j, j < 13 → defaultValue (tyX0 j) = vp_V [.int 0, .int 0, .int 0, .null, .null, .int 0, .int 0, .int 0, .int 0, .int 0, .int 0, .int 0, .int 0] j := by decide +kernel
set_option maxRecDepth 100000 in
theorem in_X1 : ∀ w ∈ wsX10, w ∈ lw_all := in_all _ [328, 330, 332] (by decide +kernel) (by decide +kernel)
set_option maxRecDepth 100000 in
theorem dfX1 : ∀ j, j < 3 → defaultValue (tyX1 j) = vp_V [.int 0, .int 0, .int 0] j := by decide +kernel
set_option maxRecDepth 100000 in
theorem in_X2 : ∀ w ∈ wsX20, w ∈ lw_all := in_all _ [193, 195, 197, 199] (by decide +kernel) (by decide +kernel)
set_option maxRecDepth 100000 in
theorem dfX2 : ∀ j, j < 4 → defaultValue (tyX2 j) = vp_V [.int 0, .int 0, .null, .null] j := by decide +kernel
set_option maxRecDepth 100000 in
theorem in_X3 : ∀ w ∈ wsX30, w ∈ lw_all := in_all _ [110, 112, 114, 116, 118] (by decide +kernel) (by decide +kernel)
set_option maxRecDepth 100000 in
theorem dfX3 : ∀ j, j < 5 → defaultValue (tyX3 j) = vp_V [.int 0, .int 0, .int 0, .null, .null] j := by decide +kernel
set_option maxRecDepth 100000 in
theorem in_X4 : ∀ w ∈ wsX40, w ∈ lw_all := in_all _ [363, 365, 367, 369, 371, 373, 375, 377, 379, 381, 383, 385, 387] (by decide +kernel) (by decide +kernel)
set_option maxRecDepth 100000 in
theorem dfX4 : ∀ j, j < 13 → defaultValue (tyX4 j) = vp_V [.null, .null, .null, .null, .null, .null, .null, .int 0, .int 0, .null, .int 0, .int 0, .int 0] j := by decide +kernel
set_option maxRecDepth 100000 in
theorem in_X5 : ∀ w ∈ wsX50, w ∈ lw_all := in_all _ [243, 245, 247, 249, 251, 253, 255] (by decide +kernel) (by decide +kernel)
set_option maxRecDepth 100000 in
theorem dfX5 : ∀ j, j < 7 → defaultValue (tyX5 j) = vp_V [.int 0, .int 0, .null, .null, .null, .null, .null] j := by decide +kernel
set_option maxRecDepth 100000 in
theorem in_X6 : ∀ w ∈ wsX60, w ∈ lw_all := in_all _ [649, 651, 653, 655, 657, 659, 661, 663] (by decide +kernel) (by decide +kernel)
set_option maxRecDepth 100000 in
theorem dfX6 : ∀ j, j < 8 → defaultValue (tyX6 j) = vp_V [.int 0, .int 0, .int 0, .int 0, .int 0, .int 0, .int 0, .null] j := by decide +kernel
set_option maxRecDepth 100000 in
theorem in_X7 : ∀ w ∈ wsX70, w ∈ lw_all := in_all _ [171, 173, 175, 177, 179, 181, 183] (by decide +kernel) (by decide +kernel)
set_option maxRecDepth 100000 in
theorem dfX7 : ∀ j, j < 7 → defaultValue (tyX7 j) = vp_V [.null, .null, .int 0, .int 0, .int 0, .int 0, .int 0] j := by decide +kernel
set_option maxRecDepth 100000 in
theorem in_X8 : ∀ w ∈ wsX80, w ∈ lw_all := in_all _ [405, 407, 409] (by decide +kernel) (by decide +kernel)
set_option maxRecDepth 100000 in
theorem dfX8 : ∀ j, j < 3 → defaultValue (tyX8 j) = vp_V [.int 0, .int 0, .null] j := by decide +kernel
set_option maxRecDepth 100000 in
theorem in_X9 : ∀ w ∈ wsX90, w ∈ lw_all := in_all _ [214, 216, 218, 220] (by decide +kernel) (by decide +kernel)
set_option maxRecDepth 100000 in
theorem dfX9 : ∀ j, j < 4 → defaultValue (tyX9 j) = vp_V [.int 0, .null, .null, .null] j := by decide +kernel
set_option maxRecDepth 100000 in
theorem in_X10 : ∀ w ∈ wsX100, w ∈ lw_all := in_all _ [145, 147] (by decide +kernel) (by decide +kernel)
set_option maxRecDepth 100000 in
theorem dfX10 : ∀ j, j < 2 → defaultValue (tyX10 j) = vp_V [.int 0, .null] j := by decide +kernel
set_option maxRecDepth 100000 in
theorem in_X11 : ∀ w ∈ wsX110, w ∈ lw_all := in_all _ [417, 419, 421, 423, 425] (by decide +kernel) (by decide +kernel)
set_option maxRecDepth 100000 in
theorem dfX11 : ∀ j, j < 5 → defaultValue (tyX11 j) = vp_V [.null, .null, .int 0, .null, .null] j := by decide +kernel
set_option maxRecDepth 100000 in
theorem in_X12 : ∀ w ∈ wsX120, w ∈ lw_all := in_all _ [1083, 1085, 1087, 1089, 1091, 1093, 1095, 1097, 1099, 1101, 1103, 1105, 1107, 1109, 1111, 1113, 1115, 1117, 1119, 1121, 1123, 1125, 1127, 1129, 1131, 1133, 1135, 1137, 1139, 1141, 1143, 1145, 1147, 1149, 1151, 1153, 1155, 1157, 1159, 1161, 1163, 1165, 1167, 1169, 1171, 1173, 1175, 1177, 1179, 1181, 1183, 1185, 1187, 1189, 1191, 1193, 1195, 1197, 1199, 1201, 1203, 1205, 1207] (by decide +kernel) (by decide +kernel)
set_option maxRecDepth 100000 in
theorem dfX12 : ∀ j, j < 63 → defaultValue (tyX12 j) = vp_V [.null, .null, .null, .int 0, .int 0, .int 0, .int 0, .null, .null, .null, .null, .null, .null, .null, .null, .null, .null, .int 0, .int 0, .int 0, .int 0, .null, .null, .null, .null, .null, .null, .null, .int 0, .int 0, .int 0, .int 0, .int 0, .int 0, .int 0, .int 0, .int 0, .int 0, .int 0, .null, .int 0, .null, .null, .int 0, .int 0, .int 0, .int 0, .null, .null, .int 0, .int 0, .int 0, .int 0, .int 0, .int 0, .null, .null, .null, .null, .null, .int 0, .int 0, .int 0] j := by decide +kernel
/-- what the constructors need beside the words: rows of references, nest mates -/
def NW (U : State) : Prop := va_AO RX7 U ∧ va_AO RX6 U ∧ va_AO RX8 U ∧ va_Nw (.methodLinkNest RX10 29 yX11_isClause "AssemblyChair") U ∧ va_Nw (.methodLinkNest RX11 11 yX4_init "AssemblyChair") U ∧ va_Nw (.methodLinkNest RX11 29 yX10_init "AssemblyChair") U ∧ va_Nw (.methodLinkNest RX11 34 yX8_init "AssemblyChair") U ∧ va_Nw (.methodLinkNest RX2 21 yX7_init "AssemblyChair") U ∧ va_Nw (.methodLinkNest RX4 11 yX3_init "AssemblyChair") U ∧ va_Nw (.methodLinkNest RX4 27 yX9_init "AssemblyChair") U ∧ va_Nw (.methodLinkNest RX4 34 yX5_init "AssemblyChair") U ∧ va_Nw (.methodLinkNest RX4 41 yX0_init "AssemblyChair") U ∧ va_Nw (.methodLinkNest RX4 48 yX1_init "AssemblyChair") U ∧ va_Nw (.methodLinkNest RX4 55 yX10_init "AssemblyChair") U ∧ va_Nw (.methodLinkNest RX7 11 yX10_init "AssemblyChair") U ∧ True
theorem NW.warm {s U : State} (hW : s.WarmedH U.vm) (h : NW s) : NW U := by
  obtain ⟨a, b, c, h0, h1, h2, h3, h4, h5, h6, h7, h8, h9, h10, h11, -⟩ := h
  exact ⟨a.moved hW.alike, b.moved hW.alike, c.moved hW.alike, h0.warmM hW, h1.warmM hW, h2.warmM hW, h3.warmM hW, h4.warmM hW, h5.warmM hW, h6.warmM hW, h7.warmM hW, h8.warmM hW, h9.warmM hW, h10.warmM hW, h11.warmM hW, trivial⟩
theorem NW.calling {a : Array Value} {U : State} {g : JFrame} {mk : MethodId} (h : NW U) : NW (U.calling g mk a) := by
  obtain ⟨a, b, c, h0, h1, h2, h3, h4, h5, h6, h7, h8, h9, h10, h11, -⟩ := h
  exact ⟨a.moved (Vm.Alike.refl U.vm), b.moved (Vm.Alike.refl U.vm), c.moved (Vm.Alike.refl U.vm), h0.same rfl rfl, h1.same rfl rfl, h2.same rfl rfl, h3.same rfl rfl, h4.same rfl rfl, h5.same rfl rfl, h6.same rfl rfl, h7.same rfl rfl, h8.same rfl rfl, h9.same rfl rfl, h10.same rfl rfl, h11.same rfl rfl, trivial⟩

/-! PURE METHODS: the answer is known, the heap stays as it was -/
def TY (cI cQ cM cR : ClassId) : List (ClassId × FieldType) := [(cI, .int), (cQ, .object RX7), (cM, .object RX6), (cR, .object RX8)]
def QP (r : Option Value) : Array Value → State → Outcome → State → Prop := fun _ st o t => o = .returned r ∧ t.heap = st.heap
def PP (D : va_G) (cI cQ cM cR : ClassId) (av : List Value) (ws : va_W) : Array Value → State → Prop := va_Pc av (fun U => va_P D vwCl ws U.heap ∧ va_K D vwCl (TY cI cQ cM cR) U)
theorem PP_blind {D : va_G} {cI cQ cM cR : ClassId} {av : List Value} {ws : va_W} : FrameBlind (PP D cI cQ cM cR av ws) := by
  intro a U g mk q
  obtain ⟨q0, qP, qK⟩ := q
  exact ⟨q0, qP, va_K.moved (u := U) (U := U.calling g mk a) (Vm.Alike.refl U.vm) qK⟩
theorem PP_of {D : va_G} {cI cQ cM cR : ClassId} {av : List Value} {ws : va_W} {s : State} {H : Heap} (hK : va_K D vwCl (TY cI cQ cM cR) s) (hP : va_P D vwCl ws H) : ∀ U : State, U.heap = H → s.WarmedH U.vm → PP D cI cQ cM cR av ws av.toArray U := fun U hU hW => ⟨rfl, by rw [hU]; exact hP, va_K.moved hW.alike hK⟩
/-! WRITERS -/
def PW (D : va_G) (cI cQ cM cR : ClassId) (av : List Value) (ws : va_W) (sz : Nat) : Array Value → State → Prop := va_Pc av (fun U => U.heap.size = sz ∧ va_P D vwCl ws U.heap ∧ va_K D vwCl (TY cI cQ cM cR) U ∧ va_D (fun _ => True) ws)
theorem PW_blind {D : va_G} {cI cQ cM cR : ClassId} {av : List Value} {ws : va_W} {sz : Nat} : FrameBlind (PW D cI cQ cM cR av ws sz) := by
  intro a U g mk q
  obtain ⟨q0, q1, qP, qK, qD⟩ := q
  exact ⟨q0, q1, qP, va_K.moved (u := U) (U := U.calling g mk a) (Vm.Alike.refl U.vm) qK, qD⟩
theorem PW_of {D : va_G} {cI cQ cM cR : ClassId} {av : List Value} {ws : va_W} {s : State} {H : Heap} {A : Nat → Prop} (hK : va_K D vwCl (TY cI cQ cM cR) s) (hP : va_P D vwCl ws H) (hD : va_D A ws) : ∀ U : State, U.heap = H → s.WarmedH U.vm → PW D cI cQ cM cR av ws H.size av.toArray U := fun U hU hW => ⟨rfl, by rw [hU], by rw [hU]; exact hP, va_K.moved hW.alike hK, hD.weaken (fun _ _ _ _ => trivial)⟩
def PWN (D : va_G) (cI cQ cM cR : ClassId) (av : List Value) (ws : va_W) (sz : Nat) : Array Value → State → Prop := va_Pc av (fun U => U.heap.size = sz ∧ va_P D vwCl ws U.heap ∧ va_K D vwCl (TY cI cQ cM cR) U ∧ va_D (fun _ => True) ws ∧ NW U)
theorem PWN_blind {D : va_G} {cI cQ cM cR : ClassId} {av : List Value} {ws : va_W} {sz : Nat} : FrameBlind (PWN D cI cQ cM cR av ws sz) := by
  intro a U g mk q
  obtain ⟨q0, q1, qP, qK, qD, qN⟩ := q
  exact ⟨q0, q1, qP, va_K.moved (u := U) (U := U.calling g mk a) (Vm.Alike.refl U.vm) qK, qD, qN.calling⟩
theorem PWN_of {D : va_G} {cI cQ cM cR : ClassId} {av : List Value} {ws : va_W} {s : State} {H : Heap} {A : Nat → Prop} (hN : NW s) (hK : va_K D vwCl (TY cI cQ cM cR) s) (hP : va_P D vwCl ws H) (hD : va_D A ws) : ∀ U : State, U.heap = H → s.WarmedH U.vm → PWN D cI cQ cM cR av ws H.size av.toArray U := fun U hU hW => ⟨rfl, by rw [hU], by rw [hU]; exact hP, va_K.moved hW.alike hK, hD.weaken (fun _ _ _ _ => trivial), hN.warm hW⟩
/-! METHODS THAT WRITE WHAT IS THERE ALREADY: no old cell changes -/
def sm (H0 H : Heap) : Prop := H0.size ≤ H.size ∧ ∀ q : Nat, q < H0.size → H[q]? = H0[q]?
theorem sm.rf {H : Heap} : sm H H := ⟨Nat.le_refl _, fun _ _ => rfl⟩
theorem sm.tr {H0 H1 H2 : Heap} (h : sm H0 H1) (h2 : sm H1 H2) : sm H0 H2 := ⟨Nat.le_trans h.1 h2.1, fun q hq => (h2.2 q (Nat.lt_of_lt_of_le hq h.1)).trans (h.2 q hq)⟩
def QI : Array Value → State → Outcome → State → Prop := fun _ st o t => o = .returned none ∧ sm st.heap t.heap
theorem sub_F {F : Nat → Prop} {ws wc : va_W} (h : ∀ (k : Nat) {q : Nat × va_E}, ws[k]? = some q → F q.1) (is : List Nat) (hs : is.filterMap (fun i => ws[i]?) = wc) : ∀ (k : Nat) {q : Nat × va_E}, wc[k]? = some q → F q.1 := by
  intro k q hk
  subst hs
  obtain ⟨i, -, hi⟩ := List.mem_filterMap.mp (List.mem_of_getElem? hk)
  exact h i hi
theorem D_F {A : Nat → Prop} {ws : va_W} (hD : va_D A ws) : ∀ (k : Nat) {q : Nat × va_E}, ws[k]? = some q → A q.1 := fun k q hk => hD.2 k q hk
theorem heap_same {H H1 : Heap} {a : Nat} {x : Cell} (h1 : H1[a]? = some x) (h : H[a]? = some x) (hz : H1.size = H.size) (o : ∀ q, q ≠ a → H1[q]? = H[q]?) : H1 = H := by
  apply Array.ext_getElem?
  intro q
  by_cases hq : q = a
  · rw [hq, h1, h]
  · exact o q hq
theorem cell_same {x : Cell} {i : Nat} {v : Value} (h : x.slots[i]? = some v) : x.setSlot i v = x := by
  have e : x.slots.setIfInBounds i v = x.slots := by
    apply Array.ext_getElem?
    intro j
    rw [Array.getElem?_setIfInBounds]
    by_cases hj : i = j
    · subst hj
      obtain ⟨hl, he⟩ := Array.getElem?_eq_some_iff.mp h
      rw [if_pos rfl, if_pos hl, h]
    · simp [hj]
  unfold Cell.setSlot
  rw [e]
section HELP
variable {p : Program} {l : Launch} {e : Env} {R : Room} {s : State} {m : MethodId} {args : Array Value} {below : List Frame} {meth : Method} {c : Code} {H : Heap} {locs : List Loc} {cells slots : Nat} {Q : State → Prop}
variable {pc : Nat} {ls : Array Slot} {rest st0 : List Value} {a : Array Value}
theorem p_call {r : Option Value} (hr : va_Run p l e R s m args below meth c H locs cells slots 0 0 (F0 m pc ls st0) rest (QP r a) (fun _ => False))
    (kk : W p l e R s m args below meth c H locs cells slots Q (F0 m (pc + 3) ls (r.toList ++ rest))) : W p l e R s m args below meth c H locs cells slots Q (F0 m pc ls st0) := by
  intro T hT X
  obtain ⟨v, st₀, t, T', L, h0, X', hL, e1, -, ⟨hv, hh⟩, st⟩ := hr T hT X
  cases hv
  obtain ⟨t2, a1, b1⟩ := kk T' (by rw [e1, hh, h0]) (Stand.forget X' (fun q h => (hL q h).elim))
  exact ⟨t2, st t2 a1, b1⟩
theorem i_call {F : Nat → Prop} (hr : va_Run p l e R s m args below meth c H locs cells slots 0 0 (F0 m pc ls st0) rest (QI a) F) (hG : sm s.heap H) (hLc : ∀ q ∈ locs, F q.base)
    (kk : ∀ (H1 : Heap), sm H H1 → (∀ q : Nat, q < H.size → H1[q]? = H[q]?) → ∀ locs1 : List Loc, sm s.heap H1 → (∀ q ∈ locs1, F q.base) → W p l e R s m args below meth c H1 locs1 cells slots Q (F0 m (pc + 3) ls rest)) : W p l e R s m args below meth c H locs cells slots Q (F0 m pc ls st0) := by
  intro T hT X
  obtain ⟨v, st₀, t, T', L, h0, X', hL, e1, -, ⟨hv, hh⟩, st⟩ := hr T hT X
  cases hv
  rw [h0, ← e1] at hh
  obtain ⟨t2, a1, b1⟩ := kk T'.heap hh hh.2 (locs ++ L) (hG.tr hh) (fun q hq => by
    rcases List.mem_append.mp hq with h | h
    · exact hLc q h
    · exact hL q h) T' rfl X'
  exact ⟨t2, st t2 a1, b1⟩
theorem i_callW {A : Nat → Prop} {H0 : Heap} (hr : va_Run p l e R s m args below meth c H locs cells slots 0 0 (F0 m pc ls st0) rest (QI a) A) (hS : va_S A H0 H locs)
    (kk : ∀ (H1 : Heap), (∀ q : Nat, q < H.size → H1[q]? = H[q]?) → ∀ locs1 : List Loc, va_S A H0 H1 locs1 → W p l e R s m args below meth c H1 locs1 cells slots Q (F0 m (pc + 3) ls rest)) : W p l e R s m args below meth c H locs cells slots Q (F0 m pc ls st0) := by
  intro T hT X
  obtain ⟨v, st₀, t, T', L, h0, X', hL, e1, -, ⟨hv, hh⟩, st⟩ := hr T hT X
  cases hv
  rw [h0, ← e1] at hh
  obtain ⟨t2, a1, b1⟩ := kk T'.heap hh.2 (locs ++ L) ⟨Nat.le_trans hS.1 hh.1, fun q h1 h2 => (hh.2 q (Nat.lt_of_lt_of_le h1 hS.1)).trans (hS.2.1 q h1 h2), fun q hq => by
    rcases List.mem_append.mp hq with h | h
    · exact hS.2.2 q h
    · exact hL q h⟩ T' rfl X'
  exact ⟨t2, st t2 a1, b1⟩
theorem lv_cst {x v : Int32} (h : x = v) (k : W p l e R s m args below meth c H locs cells slots Q (F0 m pc ls (.int v :: rest))) : W p l e R s m args below meth c H locs cells slots Q (F0 m pc ls (.int x :: rest)) := by
  subst h
  exact k
theorem lv_vst {x v : Value} (h : x = v) (k : W p l e R s m args below meth c H locs cells slots Q (F0 m pc ls (v :: rest))) : W p l e R s m args below meth c H locs cells slots Q (F0 m pc ls (x :: rest)) := by
  subst h
  exact k
end HELP
section HELPW
variable {p : Program} {l : Launch} {e : Env} {R : Room} {s : State} {m : MethodId} {args : Array Value} {below : List Frame} {meth : Method} {c : Code} {H : Heap} {locs : List Loc} {cells slots : Nat} {Q : State → Prop}
variable {cc : ByteArray} {pc : Nat} {ls : Array Slot} {rest : List Value} {D : va_G} {A F : Nat → Prop} {a : Nat} {cI cQ cM cR : ClassId} {ws : va_W} {H0 : Heap}
theorem w_newa (hexec : p.tables.exec = Jvm.exec) (hb : c.code = cc) (harr : (Cond.arrayClass .int).before args s = true) (hK : va_K D vwCl (TY cI cQ cM cR) s) (hP : va_P D vwCl ws H) (hD : va_D A ws) (hS : va_S A H0 H locs) (hA : ∀ q, H0.size ≤ q → A q)
    {n : Int32} {N' : Nat} (hn : ¬ n < 0) (hN : n.toNatClampNeg = N') (hbytes : N' * 4 ≤ 536870912) (hcells : cells + 1 ≤ R.cells) (hslots : slots + N' ≤ R.slots) (hdg : decode cc pc = .ok (.newarray .int, 2))
    (kk : ∀ (q : Nat) (H1 : Heap), va_P D vwCl (ws ++ [(q, .inl (cI, N', .inl (fun _ => 0)))]) H1 → va_D A (ws ++ [(q, .inl (cI, N', .inl (fun _ => 0)))]) → va_S A H0 H1 locs →
      W p l e R s m args below meth c H1 locs (cells + 1) (slots + N') Q (F0 m (pc + 2) ls (.ref q :: rest))) : W p l e R s m args below meth c H locs cells slots Q (F0 m pc ls (.int n :: rest)) := by
  refine va_newa hexec hb (atype := .int) (ty := .int) harr rfl hK hP hD hS hA (a0 := (N', .inl (fun _ => 0))) (fun cA => rfl) hn hN hbytes hcells hslots hdg (fun q cA H1 hK1 hP1 hD1 hS1 => ?_)
  have h1 : s.vm.findClass ("[" ++ FieldType.int.toString) = some cA := (hK1.2 4 (cA, .int) rfl).2
  have h2 : s.vm.findClass ("[" ++ FieldType.int.toString) = some cI := (hK.2 0 (cI, .int) rfl).2
  have h3 : cA = cI := Option.some.inj (h1.symm.trans h2)
  rw [h3] at hP1 hD1
  exact kk q H1 hP1 hD1 hS1
theorem w_newq (hexec : p.tables.exec = Jvm.exec) (hb : c.code = cc) {own C : String} {index : Nat} (hown : s.vm.findClass own = some m.cls) (hclink : (Cond.classLink own index C).before args s = true) (hover : va_AO C s) (ti : Nat) {cX : ClassId} (hti : (TY cI cQ cM cR)[ti]? = some (cX, .object C)) (hK : va_K D vwCl (TY cI cQ cM cR) s) (hP : va_P D vwCl ws H) (hD : va_D A ws) (hS : va_S A H0 H locs) (hA : ∀ q, H0.size ≤ q → A q)
    {n : Int32} {N' : Nat} (hn : ¬ n < 0) (hN : n.toNatClampNeg = N') (hbytes : N' * 4 ≤ 536870912) (hcells : cells + 1 ≤ R.cells) (hslots : slots + N' ≤ R.slots) (hdg : decode cc pc = .ok (.anewarray index, 3))
    (kk : ∀ (q : Nat) (H1 : Heap), va_P D vwCl (ws ++ [(q, .inl (cX, N', .inr (.inr (.inr (.inr (fun _ => none))))))]) H1 → va_D A (ws ++ [(q, .inl (cX, N', .inr (.inr (.inr (.inr (fun _ => none))))))]) → va_S A H0 H1 locs →
      W p l e R s m args below meth c H1 locs (cells + 1) (slots + N') Q (F0 m (pc + 3) ls (.ref q :: rest))) : W p l e R s m args below meth c H locs cells slots Q (F0 m pc ls (.int n :: rest)) := by
  refine va_newq hexec hb hown hclink hover hK hP hD hS hA hn hN hbytes hcells hslots hdg (fun q cA H1 hK1 hP1 hD1 hS1 => ?_)
  obtain ⟨_, _, _, _, _, h1⟩ := (hK1.2 4 (cA, .object C) rfl).2
  obtain ⟨_, _, _, _, _, h2⟩ := (hK.2 ti _ hti).2
  have h3 : cA = cX := Option.some.inj (h1.symm.trans h2)
  rw [h3] at hP1 hD1
  exact kk q H1 hP1 hD1 hS1
theorem sm_put (hexec : p.tables.exec = Jvm.exec) (hb : c.code = cc) {own ref C : String} {T : u_T} {N ci index : Nat} {Ts : List Cond} {cl : List vw_C} {tys : List (ClassId × FieldType)} (hts : ∀ w ∈ Ts, w.before args s = true) (hin : ∀ w ∈ u_ws C T N, w ∈ Ts) (hown : s.vm.findClass own = some m.cls) (hK : va_K D cl tys s) (hP : va_P D cl ws H) (q0 : Nat) {fs : List Value} (he : ws[q0]? = some (a, .inr (ci, fs))) (hc : cl[ci]? = some (C, T, N)) (k : Nat) (hk : k < N) (hlink : (Cond.fieldLink own index ref (T k).2.1 (T k).2.2.1).before args s = true) (hsame : ∀ x, s.fieldFound? (T k).1 (T k).2.1 (T k).2.2.1 = some x → s.fieldFound? ref (T k).2.1 (T k).2.2.1 = some x) (hfin : (T k).2.2.2 = false) {ty : FieldType} {v : Value} (hd : parseFieldDescriptor (T k).2.2.1 = some ty) (hn : narrow ty v = v) (hfit : fits ty v = true) (hv : fs[k]? = some v) (hF : F a)
    (hdg : decode cc pc = .ok (.putfield index, 3)) (hLc : ∀ q ∈ locs, F q.base) (kk : ∀ (locs1 : List Loc), (∀ q ∈ locs1, F q.base) → W p l e R s m args below meth c H locs1 cells slots Q (F0 m (pc + 3) ls rest)) : W p l e R s m args below meth c H locs cells slots Q (F0 m pc ls (v :: .ref a :: rest)) := by
  obtain ⟨r, h1, cell, q1, q2, q3, q4⟩ := hP q0 _ he
  have hr : r = (C, T, N) := Option.some.inj (h1.symm.trans hc)
  subst hr
  obtain ⟨hS, hfc, kC, hkC, hkind⟩ := hK.1 ci _ hc
  obtain ⟨cf, kf, fi, f, hi, hsl⟩ := hS k hk
  have hlay := hts _ (hin _ (u_in_lay hk))
  unfold u_lay at hlay
  rw [if_neg (by rw [hfin]; decide)] at hlay
  have hst := (u_facts hfc hkC (u_lays hts hin hk) hi).1
  have h6 := u_store hfc hkC hkind hlay hi hd hn hfit
  refine W.putK hexec hb (f := f) ⟨hown, hlink, ⟨_, _, _, hsame _ hi⟩, hst⟩ (by rw [q2]; exact h6) q1 q3 (by rw [hsl]; exact k2_hasslot (q4 k hk)) rfl rfl hdg fun H' e1 e2 e3 => ?_
  have hcs : cell.setSlot f.slot v = cell := cell_same (by rw [hsl, q4 k hk]; simp [vp_V, hv])
  rw [hcs] at e1
  rw [heap_same e1 q1 e2 e3]
  refine kk _ (fun q hq => ?_)
  rcases List.mem_append.mp hq with h | h
  · exact hLc q h
  · rw [List.mem_singleton.mp h]
    exact hF
theorem sm_copyi (hexec : p.tables.exec = Jvm.exec) (hb : c.code = cc) (hml : c.maxLocals = ls.size) {own : String} {index : Nat} (hown : s.vm.findClass own = some m.cls) (hlink : (Cond.methodLink own index arraycopyName).before args s = true) (hnat : (Cond.native arraycopyName).before args s = true) (hstat : (Cond.static arraycopyName).before args s = true) (hini : (Cond.initialized "java/lang/System").before args s = true)
    (hK : va_K D vwCl (TY cI cQ cM cR) s) (hP : va_P D vwCl ws H) (q0 q1 : Nat) {a0 n0 n1 : Nat} (ha0 : ws[q0]? = some (a0, .inl (cI, n0, .inl (fun _ => 0)))) (ha1 : ws[q1]? = some (a, .inl (cI, n1, .inl (fun _ => 0)))) {n : Int32} {N' : Nat} (h3 : ¬ n < 0) (hn : n.toInt = (N' : Int)) (hN : n.toNatClampNeg = N') (h4 : N' ≤ n0) (h5 : N' ≤ n1) (hF : F a)
    (hframes : 1 ≤ R.frames) (hlocals : (rest.map fun v => v.category).sum + (nativeFrameWords "java/lang/System" "arraycopy" 5 + 11) ≤ R.locals) (hdg : decode cc pc = .ok (.invokestatic index, 3)) (hLc : ∀ q ∈ locs, F q.base)
    (kk : ∀ (locs1 : List Loc), (∀ q ∈ locs1, F q.base) → W p l e R s m args below meth c H locs1 cells slots Q (F0 m (pc + 3) ls rest)) : W p l e R s m args below meth c H locs cells slots Q (F0 m pc ls (.int n :: .int 0 :: .ref a :: .int 0 :: .ref a0 :: rest)) := by
  subst hN
  intro T hT X
  have hc0 : T.heap[a0]? = some (vp_cell cI (n0, .inl (fun _ => 0))) := by rw [hT]; exact hP q0 _ ha0
  have hc1 : T.heap[a]? = some (vp_cell cI (n1, .inl (fun _ => 0))) := by rw [hT]; exact hP q1 _ ha1
  obtain ⟨-, k0, hk0, cm0, hkk0⟩ := (hK.2 0 (cI, .int) rfl).1 n0 (fun _ => .int 0)
  obtain ⟨-, k1, hk1, cm1, hkk1⟩ := (hK.2 0 (cI, .int) rfl).1 n1 (fun _ => .int 0)
  have z0 : (0 : Int32).toInt = 0 := by decide
  have zc : (0 : Int32).toNatClampNeg = 0 := by decide
  have s0 : (vp_cell cI (n0, .inl (fun _ => 0))).slots.size = n0 := arrV_size _ _ _
  have s1 : (vp_cell cI (n1, .inl (fun _ => 0))).slots.size = n1 := arrV_size _ _ _
  have hin : ∀ i, i < n.toNatClampNeg → (vp_cell cI (n0, .inl (fun _ => 0))).slots.getD ((0 : Int32).toNatClampNeg + i) .null = .int 0 := by
    intro i hi
    rw [zc, Nat.zero_add, Array.getD_eq_getD_getElem?]
    have h9 : (vp_cell cI (n0, .inl (fun _ => 0))).slots[i]? = some (.int 0) := arrV_read _ _ (by omega)
    rw [h9]
    rfl
  obtain ⟨vm', X', step⟩ := X.arraycopy hexec hown hlink hnat hstat hini (src := a0) (dst := a) (srcPos := 0) (destPos := 0) (n := n) hc0 hc1 (fun _ h => by cases h) (fun _ h => by cases h) (fun h => by cases h) (fun h => by cases h) hk0 hk1 hkk0 hkk1 rfl (by decide) (by decide) h3
    (by rw [z0, hn, s0]; omega) (by rw [z0, hn, s1]; omega)
    (fun vm₁ _ i hi => by rw [hin i hi]; exact ⟨rfl, trivial⟩)
    (g := F0 m pc ls (.int n :: .int 0 :: .ref a :: .int 0 :: .ref a0 :: rest)) rfl (by rw [hml]) (rest := rest) rfl (by rw [hb]; exact hdg) hframes (by show 2 * 0 + _ + _ ≤ _; omega)
  have e1 : copied (vp_cell cI (n0, .inl (fun _ => 0))) (vp_cell cI (n1, .inl (fun _ => 0))) 0 0 n = vp_cell cI (n1, .inl (fun _ => 0)) := by
    refine (va_copied (fun z => .int z) cI cI (fun _ => 0) (fun _ => 0) (by rw [zc, Nat.zero_add]; exact h4)).trans ?_
    exact (congrArg (fun f => arrV cI n1 f) (funext fun j => by simp [va_cpy])).trans (vp_cell_i cI n1 (fun _ => 0)).symm
  rw [e1, State.setCell_held (show (T.setVm vm').heap[a]? = _ from hc1)] at X' step
  obtain ⟨t, a1, b1⟩ := kk _ (fun q hq => by
    rcases List.mem_append.mp hq with h | h
    · exact hLc q h
    · obtain ⟨z, -, hz⟩ := List.mem_map.mp h
      rw [← hz]
      exact hF) (T.setVm vm') hT X'
  exact ⟨t, step t a1, b1⟩
end HELPW
