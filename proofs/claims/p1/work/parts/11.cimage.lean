theorem part_F {F : Nat → Prop} {X cx pl : va_W} (h : ∀ (k : Nat) {q : Nat × va_E}, (X ++ pl)[k]? = some q → F q.1) (is : List Nat) (hs : is.map (fun i => X[i]?) = cx.map some) : ∀ (k : Nat) {q : Nat × va_E}, (cx ++ pl)[k]? = some q → F q.1 := fun k q hk => h _ (va_part is hs k q hk)
theorem mem_F {F : Nat → Prop} {ws wc : va_W} (h : ∀ (k : Nat) {q : Nat × va_E}, ws[k]? = some q → F q.1) (hm : ∀ q ∈ wc, q ∈ ws) : ∀ (k : Nat) {q : Nat × va_E}, wc[k]? = some q → F q.1 := fun k q hk => by
  obtain ⟨i, hi⟩ := List.getElem?_of_mem (hm q (List.mem_of_getElem? hk))
  exact h i hi
theorem mem_P {D : va_G} {cl : List vw_C} {ws wc : va_W} {H : Heap} (h : va_P D cl ws H) (hm : ∀ q ∈ wc, q ∈ ws) : va_P D cl wc H := fun k q hk => by
  obtain ⟨i, hi⟩ := List.getElem?_of_mem (hm q (List.mem_of_getElem? hk))
  exact h i q hi
section SAME
variable {p : Program} {l : Launch} {e : Env} {R : Room} {s : State} {m : MethodId} {args : Array Value} {below : List Frame} {meth : Method} {c : Code} {H : Heap} {locs : List Loc} {cells slots : Nat} {Q : State → Prop}
variable {cc : ByteArray} {pc : Nat} {ls : Array Slot} {rest : List Value} {D : va_G} {F : Nat → Prop} {a : Nat} {cI cQ cM cR : ClassId} {ws : va_W}
theorem sm_astqN (hexec : p.tables.exec = Jvm.exec) (hb : c.code = cc) (hK : va_K D vwCl (TY cI cQ cM cR) s) (hP : va_P D vwCl ws H) (q0 t0 : Nat) {cX : ClassId} {C : String} {n : Nat} (ha : ws[q0]? = some (a, .inl (cX, n, .inr (.inr (.inr (.inr (fun _ => none))))))) (ht : (TY cI cQ cM cR)[t0]? = some (cX, .object C)) {i : Int32} (hin : vp_in i n) (hF : F a) (hdg : decode cc pc = .ok (.aastore, 1)) (hLc : ∀ q ∈ locs, F q.base)
    (kk : ∀ (locs1 : List Loc), (∀ q ∈ locs1, F q.base) → W p l e R s m args below meth c H locs1 cells slots Q (F0 m (pc + 1) ls rest)) : W p l e R s m args below meth c H locs cells slots Q (F0 m pc ls (.null :: .int i :: .ref a :: rest)) := by
  have hlt : i.toNatClampNeg < n := Nat.not_le.mp fun q => hin (Or.inr q)
  refine va_WaastN (C := C) hexec hb (hP q0 _ ha) ((hK.2 t0 _ ht).1 n (fun _ => .null)) (fun h => by cases h) (by show ¬ (i < 0 ∨ (arrV _ _ _).slots.size ≤ _); rw [arrV_size]; exact hin) rfl rfl hdg fun H1 e1 z oq => ?_
  rw [cell_same (by show (arrV _ _ _).slots[_]? = _; rw [arrV_read _ _ hlt]; rfl)] at e1
  rw [heap_same e1 (hP q0 _ ha) z oq]
  refine kk _ (fun q hq => ?_)
  rcases List.mem_append.mp hq with h | h
  · exact hLc q h
  · rw [List.mem_singleton.mp h]
    exact hF
theorem sm_iast (hexec : p.tables.exec = Jvm.exec) (hb : c.code = cc) (hK : va_K D vwCl (TY cI cQ cM cR) s) (hP : va_P D vwCl ws H) (q0 : Nat) {n : Nat} (ha : ws[q0]? = some (a, .inl (cI, n, .inl (fun _ => 0)))) {i : Int32} (hin : vp_in i n) (hF : F a) (hdg : decode cc pc = .ok (.iastore, 1)) (hLc : ∀ q ∈ locs, F q.base)
    (kk : ∀ (locs1 : List Loc), (∀ q ∈ locs1, F q.base) → W p l e R s m args below meth c H locs1 cells slots Q (F0 m (pc + 1) ls rest)) : W p l e R s m args below meth c H locs cells slots Q (F0 m pc ls (.int 0 :: .int i :: .ref a :: rest)) := by
  have hlt : i.toNatClampNeg < n := Nat.not_le.mp fun q => hin (Or.inr q)
  refine W.iast hexec hb (hP q0 _ ha) ((hK.2 0 (cI, .int) rfl).1 n (fun _ => .int 0)) (fun q => by cases q) (by show ¬ (i < 0 ∨ (arrV _ _ _).slots.size ≤ _); rw [arrV_size]; exact hin) rfl rfl hdg fun H1 e1 z oq => ?_
  rw [cell_same (by show (arrV _ _ _).slots[_]? = _; rw [arrV_read _ _ hlt])] at e1
  rw [heap_same e1 (hP q0 _ ha) z oq]
  refine kk _ (fun q hq => ?_)
  rcases List.mem_append.mp hq with h | h
  · exact hLc q h
  · rw [List.mem_singleton.mp h]
    exact hF
end SAME
theorem dX10_become_0 : decode cX10_become 0 = .ok (.aload_n 0, 1) := by decide +kernel
theorem dX10_become_1 : decode cX10_become 1 = .ok (.aload_n 1, 1) := by decide +kernel
theorem dX10_become_2 : decode cX10_become 2 = .ok (.getfield 15, 3) := by decide +kernel
theorem dX10_become_5 : decode cX10_become 5 = .ok (.putfield 15, 3) := by decide +kernel
theorem dX10_become_8 : decode cX10_become 8 = .ok (.aload_n 1, 1) := by decide +kernel
theorem dX10_become_9 : decode cX10_become 9 = .ok (.getfield 9, 3) := by decide +kernel
theorem dX10_become_12 : decode cX10_become 12 = .ok (.iconst 0, 1) := by decide +kernel
theorem dX10_become_13 : decode cX10_become 13 = .ok (.aload_n 0, 1) := by decide +kernel
theorem dX10_become_14 : decode cX10_become 14 = .ok (.getfield 9, 3) := by decide +kernel
theorem dX10_become_17 : decode cX10_become 17 = .ok (.iconst 0, 1) := by decide +kernel
theorem dX10_become_18 : decode cX10_become 18 = .ok (.bipush 8, 2) := by decide +kernel
theorem dX10_become_20 : decode cX10_become 20 = .ok (.invokestatic 19, 3) := by decide +kernel
theorem dX10_become_23 : decode cX10_become 23 = .ok (.return_, 1) := by decide +kernel
set_option maxRecDepth 100000 in
theorem q_77 : (.initialized "java/lang/System") ∈ lw_all := List.mem_filter.mpr ⟨List.mem_of_getElem? (i := 77) (by decide +kernel), by decide +kernel⟩
set_option maxRecDepth 100000 in
theorem q_609 : (.methodLink RX10 19 arraycopyName) ∈ lw_all := List.mem_filter.mpr ⟨List.mem_of_getElem? (i := 609) (by decide +kernel), by decide +kernel⟩
set_option maxRecDepth 100000 in
theorem q_611 : (.native arraycopyName) ∈ lw_all := List.mem_filter.mpr ⟨List.mem_of_getElem? (i := 611) (by decide +kernel), by decide +kernel⟩
set_option maxRecDepth 100000 in
theorem q_610 : (.static arraycopyName) ∈ lw_all := List.mem_filter.mpr ⟨List.mem_of_getElem? (i := 610) (by decide +kernel), by decide +kernel⟩
set_option maxHeartbeats 4000000 in
set_option maxRecDepth 100000 in
theorem c_X10_become (l : Launch) (D : va_G) (cI cQ cM cR : ClassId) (F : Nat → Prop) (st : Nat) (nt : Nat) (sta : Nat) (nta : Nat) (hLF : ∀ (k : Nat) {q : Nat × va_E}, ([(st, .inr (10, [.int 0, .ref sta])), (sta, .inl (cI, 8, .inl (fun _ => 0))), (nt, .inr (10, [.int 0, .ref nta])), (nta, .inl (cI, 8, .inl (fun _ => 0)))] : va_W)[k]? = some q → F q.1) : Met l yX10_become (ws_ yX10_become cX10_become 2 none) ({ frames := 1, cells := 0, slots := 0, locals := 40 }) (PP D cI cQ cM cR [.ref st, .ref nt] [(st, .inr (10, [.int 0, .ref sta])), (sta, .inl (cI, 8, .inl (fun _ => 0))), (nt, .inr (10, [.int 0, .ref nta])), (nta, .inl (cI, 8, .inl (fun _ => 0)))]) QI 0 0 F := by
  refine Met.ofW (cc := cX10_become) (maxL := 2) (ret := none) (by decide) rfl ?_
  intro p e s m args below meth c s₁ B hml hv
  obtain ⟨rfl, hP, hK⟩ := hv
  have hx := B.exec
  have hb := B.bytes
  have hr := B.returns
  have hts : ∀ w ∈ lw_all, w.before _ s = true := fun w h => atoms_spec (ws := (ws_ yX10_become cX10_become 2 none)) B.pre w (List.mem_cons_of_mem _ h)
  have hown : s.vm.findClass RX10 = some m.cls := findClass_of_methodNamed B.named
  have hlocks := B.notSynchronized
  have hG : sm s.heap s.heap := sm.rf
  have hLc : ∀ q ∈ ([] : List Loc), F q.base := fun q h => absurd h List.not_mem_nil
  have hP : va_P D vwCl [(st, .inr (10, [.int 0, .ref sta])), (sta, .inl (cI, 8, .inl (fun _ => 0))), (nt, .inr (10, [.int 0, .ref nta])), (nta, .inl (cI, 8, .inl (fun _ => 0)))] s.heap := hP
  have hl := lv_entry ([.ref st, .ref nt]) (n := 2) (Nat.le_of_ble_eq_true rfl)
  rw [lg_entry_eq]
  generalize (lg_sl ([.ref st, .ref nt]) ++ List.replicate (2 - (lg_sl ([.ref st, .ref nt])).length) Slot.unset).toArray = ls at hl ⊢
  have hl : lv_has ls 2 [(0, .ref st), (1, .ref nt)] := hl
  obtain ⟨H, hH⟩ : ∃ H : Heap, H = s.heap := ⟨_, rfl⟩
  rw [← hH] at hP
  have hG : sm s.heap H := by rw [hH]; exact hG
  rw [← hH]
  refine lv_aload_n hx hb dX10_become_0 rfl (lv_at hl 0 rfl) ?_
  refine lv_aload_n hx hb dX10_become_1 rfl (lv_at hl 1 rfl) ?_
  refine va_get (D := D) (ci := 10) (v := .int 0) (C := RX10) (T := TX10) (N := 2) hx hb hts in_X10 hown hK hP 2 rfl rfl 0 (by decide) (hts _ q_141) (fun _ h9 => h9) rfl dX10_become_2 ?_
  refine sm_put (D := D) (ci := 10) (v := .int 0) (ty := .int) (C := RX10) (T := TX10) (N := 2) hx hb hts in_X10 hown hK hP 0 rfl rfl 0 (by decide) (hts _ q_141) (fun _ h9 => h9) rfl (by decide +kernel) rfl rfl rfl (hLF 0 rfl) dX10_become_5 hLc (fun locs hLc => ?_)
  refine lv_aload_n hx hb dX10_become_8 rfl (lv_at hl 1 rfl) ?_
  refine va_get (D := D) (ci := 10) (v := .ref nta) (C := RX10) (T := TX10) (N := 2) hx hb hts in_X10 hown hK hP 2 rfl rfl 1 (by decide) (hts _ q_144) (fun _ h9 => h9) rfl dX10_become_9 ?_
  refine lv_iconst (v := 0) hx hb dX10_become_12 (by decide) ?_
  refine lv_aload_n hx hb dX10_become_13 rfl (lv_at hl 0 rfl) ?_
  refine va_get (D := D) (ci := 10) (v := .ref sta) (C := RX10) (T := TX10) (N := 2) hx hb hts in_X10 hown hK hP 0 rfl rfl 1 (by decide) (hts _ q_144) (fun _ h9 => h9) rfl dX10_become_14 ?_
  refine lv_iconst (v := 0) hx hb dX10_become_17 (by decide) ?_
  refine lv_bipush (v := 8) hx hb dX10_become_18 (by decide) ?_
  refine sm_copyi (N' := 8) hx hb (by rw [hml]; exact hl.1.symm) hown (hts _ q_609) (hts _ q_611) (hts _ q_610) (hts _ q_77) hK hP 3 1 rfl rfl (by decide) (by decide) (by decide) (Nat.le_of_ble_eq_true rfl) (Nat.le_of_ble_eq_true rfl) (hLF 1 rfl) (Nat.le_of_ble_eq_true rfl) (Nat.le_of_ble_eq_true rfl) dX10_become_20 hLc (fun locs hLc => ?_)
  exact W.vret hx hb hr (fun t ht hW => ⟨rfl, by rw [ht]; exact hG⟩) hLc dX10_become_23
theorem dX7_become_0 : decode cX7_become 0 = .ok (.aload_n 0, 1) := by decide +kernel
theorem dX7_become_1 : decode cX7_become 1 = .ok (.getfield 12, 3) := by decide +kernel
theorem dX7_become_4 : decode cX7_become 4 = .ok (.aload_n 1, 1) := by decide +kernel
theorem dX7_become_5 : decode cX7_become 5 = .ok (.getfield 12, 3) := by decide +kernel
theorem dX7_become_8 : decode cX7_become 8 = .ok (.invokevirtual 37, 3) := by decide +kernel
theorem dX7_become_11 : decode cX7_become 11 = .ok (.aload_n 0, 1) := by decide +kernel
theorem dX7_become_12 : decode cX7_become 12 = .ok (.getfield 18, 3) := by decide +kernel
theorem dX7_become_15 : decode cX7_become 15 = .ok (.aload_n 1, 1) := by decide +kernel
theorem dX7_become_16 : decode cX7_become 16 = .ok (.getfield 18, 3) := by decide +kernel
theorem dX7_become_19 : decode cX7_become 19 = .ok (.invokevirtual 37, 3) := by decide +kernel
theorem dX7_become_22 : decode cX7_become 22 = .ok (.aload_n 0, 1) := by decide +kernel
theorem dX7_become_23 : decode cX7_become 23 = .ok (.aload_n 1, 1) := by decide +kernel
theorem dX7_become_24 : decode cX7_become 24 = .ok (.getfield 21, 3) := by decide +kernel
theorem dX7_become_27 : decode cX7_become 27 = .ok (.putfield 21, 3) := by decide +kernel
theorem dX7_become_30 : decode cX7_become 30 = .ok (.aload_n 0, 1) := by decide +kernel
theorem dX7_become_31 : decode cX7_become 31 = .ok (.aload_n 1, 1) := by decide +kernel
theorem dX7_become_32 : decode cX7_become 32 = .ok (.getfield 25, 3) := by decide +kernel
theorem dX7_become_35 : decode cX7_become 35 = .ok (.putfield 25, 3) := by decide +kernel
theorem dX7_become_38 : decode cX7_become 38 = .ok (.aload_n 0, 1) := by decide +kernel
theorem dX7_become_39 : decode cX7_become 39 = .ok (.aload_n 1, 1) := by decide +kernel
theorem dX7_become_40 : decode cX7_become 40 = .ok (.getfield 28, 3) := by decide +kernel
theorem dX7_become_43 : decode cX7_become 43 = .ok (.putfield 28, 3) := by decide +kernel
theorem dX7_become_46 : decode cX7_become 46 = .ok (.aload_n 0, 1) := by decide +kernel
theorem dX7_become_47 : decode cX7_become 47 = .ok (.aload_n 1, 1) := by decide +kernel
theorem dX7_become_48 : decode cX7_become 48 = .ok (.getfield 31, 3) := by decide +kernel
theorem dX7_become_51 : decode cX7_become 51 = .ok (.putfield 31, 3) := by decide +kernel
theorem dX7_become_54 : decode cX7_become 54 = .ok (.aload_n 0, 1) := by decide +kernel
theorem dX7_become_55 : decode cX7_become 55 = .ok (.aload_n 1, 1) := by decide +kernel
theorem dX7_become_56 : decode cX7_become 56 = .ok (.getfield 34, 3) := by decide +kernel
theorem dX7_become_59 : decode cX7_become 59 = .ok (.putfield 34, 3) := by decide +kernel
theorem dX7_become_62 : decode cX7_become 62 = .ok (.return_, 1) := by decide +kernel
set_option maxRecDepth 100000 in
theorem q_608 : (.code yX10_become cX10_become 2 none) ∈ lw_all := List.mem_filter.mpr ⟨List.mem_of_getElem? (i := 608) (rfl), by decide +kernel⟩
set_option maxRecDepth 100000 in
theorem q_156 : (.fieldLink RX7 21 "AssemblyChair$Question" "mover" "I") ∈ lw_all := List.mem_filter.mpr ⟨List.mem_of_getElem? (i := 156) (by decide +kernel), by decide +kernel⟩
set_option maxRecDepth 100000 in
theorem q_159 : (.fieldLink RX7 25 "AssemblyChair$Question" "state" "I") ∈ lw_all := List.mem_filter.mpr ⟨List.mem_of_getElem? (i := 159) (by decide +kernel), by decide +kernel⟩
set_option maxRecDepth 100000 in
theorem q_162 : (.fieldLink RX7 28 "AssemblyChair$Question" "amendments" "I") ∈ lw_all := List.mem_filter.mpr ⟨List.mem_of_getElem? (i := 162) (by decide +kernel), by decide +kernel⟩
set_option maxRecDepth 100000 in
theorem q_165 : (.fieldLink RX7 31 "AssemblyChair$Question" "place" "I") ∈ lw_all := List.mem_filter.mpr ⟨List.mem_of_getElem? (i := 165) (by decide +kernel), by decide +kernel⟩
set_option maxRecDepth 100000 in
theorem q_168 : (.fieldLink RX7 34 "AssemblyChair$Question" "nextPart" "I") ∈ lw_all := List.mem_filter.mpr ⟨List.mem_of_getElem? (i := 168) (by decide +kernel), by decide +kernel⟩
set_option maxRecDepth 100000 in
theorem q_606 : (.instanceMethod yX10_become) ∈ lw_all := List.mem_filter.mpr ⟨List.mem_of_getElem? (i := 606) (by decide +kernel), by decide +kernel⟩
set_option maxRecDepth 100000 in
theorem q_991 : (.methodLink RX7 37 yX10_become) ∈ lw_all := List.mem_filter.mpr ⟨List.mem_of_getElem? (i := 991) (by decide +kernel), by decide +kernel⟩
set_option maxRecDepth 100000 in
theorem q_607 : (.selects RX10 yX10_become yX10_become) ∈ lw_all := List.mem_filter.mpr ⟨List.mem_of_getElem? (i := 607) (by decide +kernel), by decide +kernel⟩
set_option maxHeartbeats 4000000 in
set_option maxRecDepth 100000 in
theorem c_X7_become (l : Launch) (D : va_G) (cI cQ cM cR : ClassId) (F : Nat → Prop) (sq : Nat) (nq : Nat) (st : Nat) (sf : Nat) (sta : Nat) (sfa : Nat) (nt : Nat) (nf : Nat) (nta : Nat) (nfa : Nat) (hLF : ∀ (k : Nat) {q : Nat × va_E}, ([(sq, .inr (7, [.ref st, .ref sf, .int 0, .int 0, .int 0, .int 0, .int 0])), (st, .inr (10, [.int 0, .ref sta])), (sta, .inl (cI, 8, .inl (fun _ => 0))), (sf, .inr (10, [.int 0, .ref sfa])), (sfa, .inl (cI, 8, .inl (fun _ => 0))), (nq, .inr (7, [.ref nt, .ref nf, .int 0, .int 0, .int 0, .int 0, .int 0])), (nt, .inr (10, [.int 0, .ref nta])), (nta, .inl (cI, 8, .inl (fun _ => 0))), (nf, .inr (10, [.int 0, .ref nfa])), (nfa, .inl (cI, 8, .inl (fun _ => 0)))] : va_W)[k]? = some q → F q.1) : Met l yX7_become (ws_ yX7_become cX7_become 2 none) ({ frames := 2, cells := 0, slots := 0, locals := 61 }) (PP D cI cQ cM cR [.ref sq, .ref nq] [(sq, .inr (7, [.ref st, .ref sf, .int 0, .int 0, .int 0, .int 0, .int 0])), (st, .inr (10, [.int 0, .ref sta])), (sta, .inl (cI, 8, .inl (fun _ => 0))), (sf, .inr (10, [.int 0, .ref sfa])), (sfa, .inl (cI, 8, .inl (fun _ => 0))), (nq, .inr (7, [.ref nt, .ref nf, .int 0, .int 0, .int 0, .int 0, .int 0])), (nt, .inr (10, [.int 0, .ref nta])), (nta, .inl (cI, 8, .inl (fun _ => 0))), (nf, .inr (10, [.int 0, .ref nfa])), (nfa, .inl (cI, 8, .inl (fun _ => 0)))]) QI 0 0 F := by
  refine Met.ofW (cc := cX7_become) (maxL := 2) (ret := none) (by decide) rfl ?_
  intro p e s m args below meth c s₁ B hml hv
  obtain ⟨rfl, hP, hK⟩ := hv
  have hx := B.exec
  have hb := B.bytes
  have hr := B.returns
  have hts : ∀ w ∈ lw_all, w.before _ s = true := fun w h => atoms_spec (ws := (ws_ yX7_become cX7_become 2 none)) B.pre w (List.mem_cons_of_mem _ h)
  have hown : s.vm.findClass RX7 = some m.cls := findClass_of_methodNamed B.named
  have hlocks := B.notSynchronized
  have hG : sm s.heap s.heap := sm.rf
  have hLc : ∀ q ∈ ([] : List Loc), F q.base := fun q h => absurd h List.not_mem_nil
  have hP : va_P D vwCl [(sq, .inr (7, [.ref st, .ref sf, .int 0, .int 0, .int 0, .int 0, .int 0])), (st, .inr (10, [.int 0, .ref sta])), (sta, .inl (cI, 8, .inl (fun _ => 0))), (sf, .inr (10, [.int 0, .ref sfa])), (sfa, .inl (cI, 8, .inl (fun _ => 0))), (nq, .inr (7, [.ref nt, .ref nf, .int 0, .int 0, .int 0, .int 0, .int 0])), (nt, .inr (10, [.int 0, .ref nta])), (nta, .inl (cI, 8, .inl (fun _ => 0))), (nf, .inr (10, [.int 0, .ref nfa])), (nfa, .inl (cI, 8, .inl (fun _ => 0)))] s.heap := hP
  have hl := lv_entry ([.ref sq, .ref nq]) (n := 2) (Nat.le_of_ble_eq_true rfl)
  rw [lg_entry_eq]
  generalize (lg_sl ([.ref sq, .ref nq]) ++ List.replicate (2 - (lg_sl ([.ref sq, .ref nq])).length) Slot.unset).toArray = ls at hl ⊢
  have hl : lv_has ls 2 [(0, .ref sq), (1, .ref nq)] := hl
  obtain ⟨H, hH⟩ : ∃ H : Heap, H = s.heap := ⟨_, rfl⟩
  rw [← hH] at hP
  have hG : sm s.heap H := by rw [hH]; exact hG
  rw [← hH]
  refine lv_aload_n hx hb dX7_become_0 rfl (lv_at hl 0 rfl) ?_
  refine va_get (D := D) (ci := 7) (v := .ref st) (C := RX7) (T := TX7) (N := 7) hx hb hts in_X7 hown hK hP 0 rfl rfl 0 (by decide) (hts _ q_150) (fun _ h9 => h9) rfl dX7_become_1 ?_
  refine lv_aload_n hx hb dX7_become_4 rfl (lv_at hl 1 rfl) ?_
  refine va_get (D := D) (ci := 7) (v := .ref nt) (C := RX7) (T := TX7) (N := 7) hx hb hts in_X7 hown hK hP 5 rfl rfl 0 (by decide) (hts _ q_150) (fun _ h9 => h9) rfl dX7_become_5 ?_
  refine i_call (va_runV (As := [.ref nt]) (rest := []) ⟨hx, hb, hml, hown, hts⟩ (c_X10_become l D cI cQ cM cR F st nt sta nta (sub_F hLF [1, 2, 6, 7] rfl)) (cwV 1 hts (gV q_991 q_606 q_607 q_70 q_608) rfl rfl rfl (by decide +kernel) ⟨Nat.le_of_ble_eq_true rfl, Nat.le_of_ble_eq_true rfl⟩) ⟨PP_blind, va_recv hK hP (ci := 10) (q0 := 1) rfl rfl, PP_of hK (hP.sub [1, 2, 6, 7] rfl)⟩ rfl rfl hl.1 rfl (lv_room (Nat.le_of_ble_eq_true rfl)) dX7_become_8 ⟨Nat.le_of_ble_eq_true rfl, Nat.le_of_ble_eq_true rfl⟩) hG hLc (fun H hGG hkk locs hG hLc => ?_)
  have hP := hP.kept (fun k q hk => hkk q.1 (hP k q hk).lt)
  refine lv_aload_n hx hb dX7_become_11 rfl (lv_at hl 0 rfl) ?_
  refine va_get (D := D) (ci := 7) (v := .ref sf) (C := RX7) (T := TX7) (N := 7) hx hb hts in_X7 hown hK hP 0 rfl rfl 1 (by decide) (hts _ q_153) (fun _ h9 => h9) rfl dX7_become_12 ?_
  refine lv_aload_n hx hb dX7_become_15 rfl (lv_at hl 1 rfl) ?_
  refine va_get (D := D) (ci := 7) (v := .ref nf) (C := RX7) (T := TX7) (N := 7) hx hb hts in_X7 hown hK hP 5 rfl rfl 1 (by decide) (hts _ q_153) (fun _ h9 => h9) rfl dX7_become_16 ?_
  refine i_call (va_runV (As := [.ref nf]) (rest := []) ⟨hx, hb, hml, hown, hts⟩ (c_X10_become l D cI cQ cM cR F sf nf sfa nfa (sub_F hLF [3, 4, 8, 9] rfl)) (cwV 1 hts (gV q_991 q_606 q_607 q_70 q_608) rfl rfl rfl (by decide +kernel) ⟨Nat.le_of_ble_eq_true rfl, Nat.le_of_ble_eq_true rfl⟩) ⟨PP_blind, va_recv hK hP (ci := 10) (q0 := 3) rfl rfl, PP_of hK (hP.sub [3, 4, 8, 9] rfl)⟩ rfl rfl hl.1 rfl (lv_room (Nat.le_of_ble_eq_true rfl)) dX7_become_19 ⟨Nat.le_of_ble_eq_true rfl, Nat.le_of_ble_eq_true rfl⟩) hG hLc (fun H hGG hkk locs hG hLc => ?_)
  have hP := hP.kept (fun k q hk => hkk q.1 (hP k q hk).lt)
  refine lv_aload_n hx hb dX7_become_22 rfl (lv_at hl 0 rfl) ?_
  refine lv_aload_n hx hb dX7_become_23 rfl (lv_at hl 1 rfl) ?_
  refine va_get (D := D) (ci := 7) (v := .int 0) (C := RX7) (T := TX7) (N := 7) hx hb hts in_X7 hown hK hP 5 rfl rfl 2 (by decide) (hts _ q_156) (fun _ h9 => h9) rfl dX7_become_24 ?_
  refine sm_put (D := D) (ci := 7) (v := .int 0) (ty := .int) (C := RX7) (T := TX7) (N := 7) hx hb hts in_X7 hown hK hP 0 rfl rfl 2 (by decide) (hts _ q_156) (fun _ h9 => h9) rfl (by decide +kernel) rfl rfl rfl (hLF 0 rfl) dX7_become_27 hLc (fun locs hLc => ?_)
  refine lv_aload_n hx hb dX7_become_30 rfl (lv_at hl 0 rfl) ?_
  refine lv_aload_n hx hb dX7_become_31 rfl (lv_at hl 1 rfl) ?_
  refine va_get (D := D) (ci := 7) (v := .int 0) (C := RX7) (T := TX7) (N := 7) hx hb hts in_X7 hown hK hP 5 rfl rfl 3 (by decide) (hts _ q_159) (fun _ h9 => h9) rfl dX7_become_32 ?_
  refine sm_put (D := D) (ci := 7) (v := .int 0) (ty := .int) (C := RX7) (T := TX7) (N := 7) hx hb hts in_X7 hown hK hP 0 rfl rfl 3 (by decide) (hts _ q_159) (fun _ h9 => h9) rfl (by decide +kernel) rfl rfl rfl (hLF 0 rfl) dX7_become_35 hLc (fun locs hLc => ?_)
  refine lv_aload_n hx hb dX7_become_38 rfl (lv_at hl 0 rfl) ?_
  refine lv_aload_n hx hb dX7_become_39 rfl (lv_at hl 1 rfl) ?_
  refine va_get (D := D) (ci := 7) (v := .int 0) (C := RX7) (T := TX7) (N := 7) hx hb hts in_X7 hown hK hP 5 rfl rfl 4 (by decide) (hts _ q_162) (fun _ h9 => h9) rfl dX7_become_40 ?_
  refine sm_put (D := D) (ci := 7) (v := .int 0) (ty := .int) (C := RX7) (T := TX7) (N := 7) hx hb hts in_X7 hown hK hP 0 rfl rfl 4 (by decide) (hts _ q_162) (fun _ h9 => h9) rfl (by decide +kernel) rfl rfl rfl (hLF 0 rfl) dX7_become_43 hLc (fun locs hLc => ?_)
  refine lv_aload_n hx hb dX7_become_46 rfl (lv_at hl 0 rfl) ?_
  refine lv_aload_n hx hb dX7_become_47 rfl (lv_at hl 1 rfl) ?_
  refine va_get (D := D) (ci := 7) (v := .int 0) (C := RX7) (T := TX7) (N := 7) hx hb hts in_X7 hown hK hP 5 rfl rfl 5 (by decide) (hts _ q_165) (fun _ h9 => h9) rfl dX7_become_48 ?_
  refine sm_put (D := D) (ci := 7) (v := .int 0) (ty := .int) (C := RX7) (T := TX7) (N := 7) hx hb hts in_X7 hown hK hP 0 rfl rfl 5 (by decide) (hts _ q_165) (fun _ h9 => h9) rfl (by decide +kernel) rfl rfl rfl (hLF 0 rfl) dX7_become_51 hLc (fun locs hLc => ?_)
  refine lv_aload_n hx hb dX7_become_54 rfl (lv_at hl 0 rfl) ?_
  refine lv_aload_n hx hb dX7_become_55 rfl (lv_at hl 1 rfl) ?_
  refine va_get (D := D) (ci := 7) (v := .int 0) (C := RX7) (T := TX7) (N := 7) hx hb hts in_X7 hown hK hP 5 rfl rfl 6 (by decide) (hts _ q_168) (fun _ h9 => h9) rfl dX7_become_56 ?_
  refine sm_put (D := D) (ci := 7) (v := .int 0) (ty := .int) (C := RX7) (T := TX7) (N := 7) hx hb hts in_X7 hown hK hP 0 rfl rfl 6 (by decide) (hts _ q_168) (fun _ h9 => h9) rfl (by decide +kernel) rfl rfl rfl (hLF 0 rfl) dX7_become_59 hLc (fun locs hLc => ?_)
  exact W.vret hx hb hr (fun t ht hW => ⟨rfl, by rw [ht]; exact hG⟩) hLc dX7_become_62
theorem dX3_become_0 : decode cX3_become 0 = .ok (.aload_n 0, 1) := by decide +kernel
theorem dX3_become_1 : decode cX3_become 1 = .ok (.aload_n 1, 1) := by decide +kernel
theorem dX3_become_2 : decode cX3_become 2 = .ok (.getfield 22, 3) := by decide +kernel
theorem dX3_become_5 : decode cX3_become 5 = .ok (.putfield 22, 3) := by decide +kernel
theorem dX3_become_8 : decode cX3_become 8 = .ok (.aload_n 0, 1) := by decide +kernel
theorem dX3_become_9 : decode cX3_become 9 = .ok (.aload_n 1, 1) := by decide +kernel
theorem dX3_become_10 : decode cX3_become 10 = .ok (.getfield 9, 3) := by decide +kernel
theorem dX3_become_13 : decode cX3_become 13 = .ok (.putfield 9, 3) := by decide +kernel
theorem dX3_become_16 : decode cX3_become 16 = .ok (.aload_n 0, 1) := by decide +kernel
theorem dX3_become_17 : decode cX3_become 17 = .ok (.aload_n 1, 1) := by decide +kernel
theorem dX3_become_18 : decode cX3_become 18 = .ok (.getfield 25, 3) := by decide +kernel
theorem dX3_become_21 : decode cX3_become 21 = .ok (.putfield 25, 3) := by decide +kernel
theorem dX3_become_24 : decode cX3_become 24 = .ok (.aload_n 1, 1) := by decide +kernel
theorem dX3_become_25 : decode cX3_become 25 = .ok (.getfield 15, 3) := by decide +kernel
theorem dX3_become_28 : decode cX3_become 28 = .ok (.iconst 0, 1) := by decide +kernel
theorem dX3_become_29 : decode cX3_become 29 = .ok (.aload_n 0, 1) := by decide +kernel
theorem dX3_become_30 : decode cX3_become 30 = .ok (.getfield 15, 3) := by decide +kernel
theorem dX3_become_33 : decode cX3_become 33 = .ok (.iconst 0, 1) := by decide +kernel
theorem dX3_become_34 : decode cX3_become 34 = .ok (.bipush 12, 2) := by decide +kernel
theorem dX3_become_36 : decode cX3_become 36 = .ok (.invokestatic 28, 3) := by decide +kernel
theorem dX3_become_39 : decode cX3_become 39 = .ok (.aload_n 1, 1) := by decide +kernel
theorem dX3_become_40 : decode cX3_become 40 = .ok (.getfield 19, 3) := by decide +kernel
theorem dX3_become_43 : decode cX3_become 43 = .ok (.iconst 0, 1) := by decide +kernel
theorem dX3_become_44 : decode cX3_become 44 = .ok (.aload_n 0, 1) := by decide +kernel
theorem dX3_become_45 : decode cX3_become 45 = .ok (.getfield 19, 3) := by decide +kernel
theorem dX3_become_48 : decode cX3_become 48 = .ok (.iconst 0, 1) := by decide +kernel
theorem dX3_become_49 : decode cX3_become 49 = .ok (.bipush 12, 2) := by decide +kernel
theorem dX3_become_51 : decode cX3_become 51 = .ok (.invokestatic 28, 3) := by decide +kernel
theorem dX3_become_54 : decode cX3_become 54 = .ok (.return_, 1) := by decide +kernel
set_option maxRecDepth 100000 in
theorem q_982 : (.methodLink RX3 28 arraycopyName) ∈ lw_all := List.mem_filter.mpr ⟨List.mem_of_getElem? (i := 982) (by decide +kernel), by decide +kernel⟩
set_option maxHeartbeats 4000000 in
set_option maxRecDepth 100000 in
theorem c_X3_become (l : Launch) (D : va_G) (cI cQ cM cR : ClassId) (F : Nat → Prop) (sho : Nat) (nho : Nat) (shw : Nat) (shs : Nat) (nhw : Nat) (nhs : Nat) (hLF : ∀ (k : Nat) {q : Nat × va_E}, ([(sho, .inr (3, [.int 0, .int 50, .int 0, .ref shw, .ref shs])), (shw, .inl (cI, 12, .inl (fun _ => 0))), (shs, .inl (cI, 12, .inl (fun _ => 0))), (nho, .inr (3, [.int 0, .int 50, .int 0, .ref nhw, .ref nhs])), (nhw, .inl (cI, 12, .inl (fun _ => 0))), (nhs, .inl (cI, 12, .inl (fun _ => 0)))] : va_W)[k]? = some q → F q.1) : Met l yX3_become (ws_ yX3_become cX3_become 2 none) ({ frames := 1, cells := 0, slots := 0, locals := 40 }) (PP D cI cQ cM cR [.ref sho, .ref nho] [(sho, .inr (3, [.int 0, .int 50, .int 0, .ref shw, .ref shs])), (shw, .inl (cI, 12, .inl (fun _ => 0))), (shs, .inl (cI, 12, .inl (fun _ => 0))), (nho, .inr (3, [.int 0, .int 50, .int 0, .ref nhw, .ref nhs])), (nhw, .inl (cI, 12, .inl (fun _ => 0))), (nhs, .inl (cI, 12, .inl (fun _ => 0)))]) QI 0 0 F := by
  refine Met.ofW (cc := cX3_become) (maxL := 2) (ret := none) (by decide) rfl ?_
  intro p e s m args below meth c s₁ B hml hv
  obtain ⟨rfl, hP, hK⟩ := hv
  have hx := B.exec
  have hb := B.bytes
  have hr := B.returns
  have hts : ∀ w ∈ lw_all, w.before _ s = true := fun w h => atoms_spec (ws := (ws_ yX3_become cX3_become 2 none)) B.pre w (List.mem_cons_of_mem _ h)
  have hown : s.vm.findClass RX3 = some m.cls := findClass_of_methodNamed B.named
  have hlocks := B.notSynchronized
  have hG : sm s.heap s.heap := sm.rf
  have hLc : ∀ q ∈ ([] : List Loc), F q.base := fun q h => absurd h List.not_mem_nil
  have hP : va_P D vwCl [(sho, .inr (3, [.int 0, .int 50, .int 0, .ref shw, .ref shs])), (shw, .inl (cI, 12, .inl (fun _ => 0))), (shs, .inl (cI, 12, .inl (fun _ => 0))), (nho, .inr (3, [.int 0, .int 50, .int 0, .ref nhw, .ref nhs])), (nhw, .inl (cI, 12, .inl (fun _ => 0))), (nhs, .inl (cI, 12, .inl (fun _ => 0)))] s.heap := hP
  have hl := lv_entry ([.ref sho, .ref nho]) (n := 2) (Nat.le_of_ble_eq_true rfl)
  rw [lg_entry_eq]
  generalize (lg_sl ([.ref sho, .ref nho]) ++ List.replicate (2 - (lg_sl ([.ref sho, .ref nho])).length) Slot.unset).toArray = ls at hl ⊢
  have hl : lv_has ls 2 [(0, .ref sho), (1, .ref nho)] := hl
  obtain ⟨H, hH⟩ : ∃ H : Heap, H = s.heap := ⟨_, rfl⟩
  rw [← hH] at hP
  have hG : sm s.heap H := by rw [hH]; exact hG
  rw [← hH]
  refine lv_aload_n hx hb dX3_become_0 rfl (lv_at hl 0 rfl) ?_
  refine lv_aload_n hx hb dX3_become_1 rfl (lv_at hl 1 rfl) ?_
  refine va_get (D := D) (ci := 3) (v := .int 0) (C := RX3) (T := TX3) (N := 5) hx hb hts in_X3 hown hK hP 3 rfl rfl 0 (by decide) (hts _ q_101) (fun _ h9 => h9) rfl dX3_become_2 ?_
  refine sm_put (D := D) (ci := 3) (v := .int 0) (ty := .int) (C := RX3) (T := TX3) (N := 5) hx hb hts in_X3 hown hK hP 0 rfl rfl 0 (by decide) (hts _ q_101) (fun _ h9 => h9) rfl (by decide +kernel) rfl rfl rfl (hLF 0 rfl) dX3_become_5 hLc (fun locs hLc => ?_)
  refine lv_aload_n hx hb dX3_become_8 rfl (lv_at hl 0 rfl) ?_
  refine lv_aload_n hx hb dX3_become_9 rfl (lv_at hl 1 rfl) ?_
  refine va_get (D := D) (ci := 3) (v := .int 50) (C := RX3) (T := TX3) (N := 5) hx hb hts in_X3 hown hK hP 3 rfl rfl 1 (by decide) (hts _ q_103) (fun _ h9 => h9) rfl dX3_become_10 ?_
  refine sm_put (D := D) (ci := 3) (v := .int 50) (ty := .int) (C := RX3) (T := TX3) (N := 5) hx hb hts in_X3 hown hK hP 0 rfl rfl 1 (by decide) (hts _ q_103) (fun _ h9 => h9) rfl (by decide +kernel) rfl rfl rfl (hLF 0 rfl) dX3_become_13 hLc (fun locs hLc => ?_)
  refine lv_aload_n hx hb dX3_become_16 rfl (lv_at hl 0 rfl) ?_
  refine lv_aload_n hx hb dX3_become_17 rfl (lv_at hl 1 rfl) ?_
  refine va_get (D := D) (ci := 3) (v := .int 0) (C := RX3) (T := TX3) (N := 5) hx hb hts in_X3 hown hK hP 3 rfl rfl 2 (by decide) (hts _ q_105) (fun _ h9 => h9) rfl dX3_become_18 ?_
  refine sm_put (D := D) (ci := 3) (v := .int 0) (ty := .int) (C := RX3) (T := TX3) (N := 5) hx hb hts in_X3 hown hK hP 0 rfl rfl 2 (by decide) (hts _ q_105) (fun _ h9 => h9) rfl (by decide +kernel) rfl rfl rfl (hLF 0 rfl) dX3_become_21 hLc (fun locs hLc => ?_)
  refine lv_aload_n hx hb dX3_become_24 rfl (lv_at hl 1 rfl) ?_
  refine va_get (D := D) (ci := 3) (v := .ref nhw) (C := RX3) (T := TX3) (N := 5) hx hb hts in_X3 hown hK hP 3 rfl rfl 3 (by decide) (hts _ q_108) (fun _ h9 => h9) rfl dX3_become_25 ?_
  refine lv_iconst (v := 0) hx hb dX3_become_28 (by decide) ?_
  refine lv_aload_n hx hb dX3_become_29 rfl (lv_at hl 0 rfl) ?_
  refine va_get (D := D) (ci := 3) (v := .ref shw) (C := RX3) (T := TX3) (N := 5) hx hb hts in_X3 hown hK hP 0 rfl rfl 3 (by decide) (hts _ q_108) (fun _ h9 => h9) rfl dX3_become_30 ?_
  refine lv_iconst (v := 0) hx hb dX3_become_33 (by decide) ?_
  refine lv_bipush (v := 12) hx hb dX3_become_34 (by decide) ?_
  refine sm_copyi (N' := 12) hx hb (by rw [hml]; exact hl.1.symm) hown (hts _ q_982) (hts _ q_611) (hts _ q_610) (hts _ q_77) hK hP 4 1 rfl rfl (by decide) (by decide) (by decide) (Nat.le_of_ble_eq_true rfl) (Nat.le_of_ble_eq_true rfl) (hLF 1 rfl) (Nat.le_of_ble_eq_true rfl) (Nat.le_of_ble_eq_true rfl) dX3_become_36 hLc (fun locs hLc => ?_)
  refine lv_aload_n hx hb dX3_become_39 rfl (lv_at hl 1 rfl) ?_
  refine va_get (D := D) (ci := 3) (v := .ref nhs) (C := RX3) (T := TX3) (N := 5) hx hb hts in_X3 hown hK hP 3 rfl rfl 4 (by decide) (hts _ q_109) (fun _ h9 => h9) rfl dX3_become_40 ?_
  refine lv_iconst (v := 0) hx hb dX3_become_43 (by decide) ?_
  refine lv_aload_n hx hb dX3_become_44 rfl (lv_at hl 0 rfl) ?_
  refine va_get (D := D) (ci := 3) (v := .ref shs) (C := RX3) (T := TX3) (N := 5) hx hb hts in_X3 hown hK hP 0 rfl rfl 4 (by decide) (hts _ q_109) (fun _ h9 => h9) rfl dX3_become_45 ?_
  refine lv_iconst (v := 0) hx hb dX3_become_48 (by decide) ?_
  refine lv_bipush (v := 12) hx hb dX3_become_49 (by decide) ?_
  refine sm_copyi (N' := 12) hx hb (by rw [hml]; exact hl.1.symm) hown (hts _ q_982) (hts _ q_611) (hts _ q_610) (hts _ q_77) hK hP 5 2 rfl rfl (by decide) (by decide) (by decide) (Nat.le_of_ble_eq_true rfl) (Nat.le_of_ble_eq_true rfl) (hLF 2 rfl) (Nat.le_of_ble_eq_true rfl) (Nat.le_of_ble_eq_true rfl) dX3_become_51 hLc (fun locs hLc => ?_)
  exact W.vret hx hb hr (fun t ht hW => ⟨rfl, by rw [ht]; exact hG⟩) hLc dX3_become_54
theorem dX0_become_0 : decode cX0_become 0 = .ok (.aload_n 0, 1) := by decide +kernel
theorem dX0_become_1 : decode cX0_become 1 = .ok (.aload_n 1, 1) := by decide +kernel
theorem dX0_become_2 : decode cX0_become 2 = .ok (.getfield 22, 3) := by decide +kernel
theorem dX0_become_5 : decode cX0_become 5 = .ok (.putfield 22, 3) := by decide +kernel
theorem dX0_become_8 : decode cX0_become 8 = .ok (.aload_n 0, 1) := by decide +kernel
theorem dX0_become_9 : decode cX0_become 9 = .ok (.aload_n 1, 1) := by decide +kernel
theorem dX0_become_10 : decode cX0_become 10 = .ok (.getfield 25, 3) := by decide +kernel
theorem dX0_become_13 : decode cX0_become 13 = .ok (.putfield 25, 3) := by decide +kernel
theorem dX0_become_16 : decode cX0_become 16 = .ok (.aload_n 0, 1) := by decide +kernel
theorem dX0_become_17 : decode cX0_become 17 = .ok (.aload_n 1, 1) := by decide +kernel
theorem dX0_become_18 : decode cX0_become 18 = .ok (.getfield 28, 3) := by decide +kernel
theorem dX0_become_21 : decode cX0_become 21 = .ok (.putfield 28, 3) := by decide +kernel
theorem dX0_become_24 : decode cX0_become 24 = .ok (.aload_n 1, 1) := by decide +kernel
theorem dX0_become_25 : decode cX0_become 25 = .ok (.getfield 9, 3) := by decide +kernel
theorem dX0_become_28 : decode cX0_become 28 = .ok (.iconst 0, 1) := by decide +kernel
theorem dX0_become_29 : decode cX0_become 29 = .ok (.aload_n 0, 1) := by decide +kernel
theorem dX0_become_30 : decode cX0_become 30 = .ok (.getfield 9, 3) := by decide +kernel
theorem dX0_become_33 : decode cX0_become 33 = .ok (.iconst 0, 1) := by decide +kernel
theorem dX0_become_34 : decode cX0_become 34 = .ok (.bipush 40, 2) := by decide +kernel
theorem dX0_become_36 : decode cX0_become 36 = .ok (.invokestatic 31, 3) := by decide +kernel
theorem dX0_become_39 : decode cX0_become 39 = .ok (.aload_n 1, 1) := by decide +kernel
theorem dX0_become_40 : decode cX0_become 40 = .ok (.getfield 15, 3) := by decide +kernel
theorem dX0_become_43 : decode cX0_become 43 = .ok (.iconst 0, 1) := by decide +kernel
theorem dX0_become_44 : decode cX0_become 44 = .ok (.aload_n 0, 1) := by decide +kernel
theorem dX0_become_45 : decode cX0_become 45 = .ok (.getfield 15, 3) := by decide +kernel
theorem dX0_become_48 : decode cX0_become 48 = .ok (.iconst 0, 1) := by decide +kernel
theorem dX0_become_49 : decode cX0_become 49 = .ok (.bipush 40, 2) := by decide +kernel
theorem dX0_become_51 : decode cX0_become 51 = .ok (.invokestatic 31, 3) := by decide +kernel
theorem dX0_become_54 : decode cX0_become 54 = .ok (.aload_n 0, 1) := by decide +kernel
theorem dX0_become_55 : decode cX0_become 55 = .ok (.aload_n 1, 1) := by decide +kernel
theorem dX0_become_56 : decode cX0_become 56 = .ok (.getfield 37, 3) := by decide +kernel
theorem dX0_become_59 : decode cX0_become 59 = .ok (.putfield 37, 3) := by decide +kernel
theorem dX0_become_62 : decode cX0_become 62 = .ok (.aload_n 0, 1) := by decide +kernel
theorem dX0_become_63 : decode cX0_become 63 = .ok (.aload_n 1, 1) := by decide +kernel
theorem dX0_become_64 : decode cX0_become 64 = .ok (.getfield 40, 3) := by decide +kernel
theorem dX0_become_67 : decode cX0_become 67 = .ok (.putfield 40, 3) := by decide +kernel
theorem dX0_become_70 : decode cX0_become 70 = .ok (.aload_n 0, 1) := by decide +kernel
theorem dX0_become_71 : decode cX0_become 71 = .ok (.aload_n 1, 1) := by decide +kernel
theorem dX0_become_72 : decode cX0_become 72 = .ok (.getfield 43, 3) := by decide +kernel
theorem dX0_become_75 : decode cX0_become 75 = .ok (.putfield 43, 3) := by decide +kernel
theorem dX0_become_78 : decode cX0_become 78 = .ok (.aload_n 0, 1) := by decide +kernel
theorem dX0_become_79 : decode cX0_become 79 = .ok (.aload_n 1, 1) := by decide +kernel
theorem dX0_become_80 : decode cX0_become 80 = .ok (.getfield 46, 3) := by decide +kernel
theorem dX0_become_83 : decode cX0_become 83 = .ok (.putfield 46, 3) := by decide +kernel
theorem dX0_become_86 : decode cX0_become 86 = .ok (.aload_n 0, 1) := by decide +kernel
theorem dX0_become_87 : decode cX0_become 87 = .ok (.aload_n 1, 1) := by decide +kernel
theorem dX0_become_88 : decode cX0_become 88 = .ok (.getfield 49, 3) := by decide +kernel
theorem dX0_become_91 : decode cX0_become 91 = .ok (.putfield 49, 3) := by decide +kernel
theorem dX0_become_94 : decode cX0_become 94 = .ok (.aload_n 0, 1) := by decide +kernel
theorem dX0_become_95 : decode cX0_become 95 = .ok (.aload_n 1, 1) := by decide +kernel
theorem dX0_become_96 : decode cX0_become 96 = .ok (.getfield 18, 3) := by decide +kernel
theorem dX0_become_99 : decode cX0_become 99 = .ok (.putfield 18, 3) := by decide +kernel
theorem dX0_become_102 : decode cX0_become 102 = .ok (.aload_n 0, 1) := by decide +kernel
theorem dX0_become_103 : decode cX0_become 103 = .ok (.aload_n 1, 1) := by decide +kernel
theorem dX0_become_104 : decode cX0_become 104 = .ok (.getfield 53, 3) := by decide +kernel
theorem dX0_become_107 : decode cX0_become 107 = .ok (.putfield 53, 3) := by decide +kernel
theorem dX0_become_110 : decode cX0_become 110 = .ok (.aload_n 0, 1) := by decide +kernel
theorem dX0_become_111 : decode cX0_become 111 = .ok (.aload_n 1, 1) := by decide +kernel
theorem dX0_become_112 : decode cX0_become 112 = .ok (.getfield 56, 3) := by decide +kernel
theorem dX0_become_115 : decode cX0_become 115 = .ok (.putfield 56, 3) := by decide +kernel
theorem dX0_become_118 : decode cX0_become 118 = .ok (.return_, 1) := by decide +kernel
set_option maxRecDepth 100000 in
theorem q_264 : (.fieldLink RX0 22 "AssemblyChair$Ballots" "decided" "I") ∈ lw_all := List.mem_filter.mpr ⟨List.mem_of_getElem? (i := 264) (by decide +kernel), by decide +kernel⟩
set_option maxRecDepth 100000 in
theorem q_266 : (.fieldLink RX0 25 "AssemblyChair$Ballots" "adopted" "I") ∈ lw_all := List.mem_filter.mpr ⟨List.mem_of_getElem? (i := 266) (by decide +kernel), by decide +kernel⟩
set_option maxRecDepth 100000 in
theorem q_268 : (.fieldLink RX0 28 "AssemblyChair$Ballots" "kept" "I") ∈ lw_all := List.mem_filter.mpr ⟨List.mem_of_getElem? (i := 268) (by decide +kernel), by decide +kernel⟩
set_option maxRecDepth 100000 in
theorem q_274 : (.fieldLink RX0 37 "AssemblyChair$Ballots" "lastYes" "I") ∈ lw_all := List.mem_filter.mpr ⟨List.mem_of_getElem? (i := 274) (by decide +kernel), by decide +kernel⟩
set_option maxRecDepth 100000 in
theorem q_276 : (.fieldLink RX0 40 "AssemblyChair$Ballots" "lastNo" "I") ∈ lw_all := List.mem_filter.mpr ⟨List.mem_of_getElem? (i := 276) (by decide +kernel), by decide +kernel⟩
set_option maxRecDepth 100000 in
theorem q_278 : (.fieldLink RX0 43 "AssemblyChair$Ballots" "lastNeither" "I") ∈ lw_all := List.mem_filter.mpr ⟨List.mem_of_getElem? (i := 278) (by decide +kernel), by decide +kernel⟩
set_option maxRecDepth 100000 in
theorem q_280 : (.fieldLink RX0 46 "AssemblyChair$Ballots" "lastKind" "I") ∈ lw_all := List.mem_filter.mpr ⟨List.mem_of_getElem? (i := 280) (by decide +kernel), by decide +kernel⟩
set_option maxRecDepth 100000 in
theorem q_282 : (.fieldLink RX0 49 "AssemblyChair$Ballots" "lastWasAdopted" "Z") ∈ lw_all := List.mem_filter.mpr ⟨List.mem_of_getElem? (i := 282) (by decide +kernel), by decide +kernel⟩
set_option maxRecDepth 100000 in
theorem q_287 : (.fieldLink RX0 53 "AssemblyChair$Ballots" "mainWinners" "I") ∈ lw_all := List.mem_filter.mpr ⟨List.mem_of_getElem? (i := 287) (by decide +kernel), by decide +kernel⟩
set_option maxRecDepth 100000 in
theorem q_288 : (.fieldLink RX0 56 "AssemblyChair$Ballots" "mainWasQuestioned" "Z") ∈ lw_all := List.mem_filter.mpr ⟨List.mem_of_getElem? (i := 288) (by decide +kernel), by decide +kernel⟩
set_option maxRecDepth 100000 in
theorem q_1005 : (.methodLink RX0 31 arraycopyName) ∈ lw_all := List.mem_filter.mpr ⟨List.mem_of_getElem? (i := 1005) (by decide +kernel), by decide +kernel⟩
set_option maxHeartbeats 4000000 in
set_option maxRecDepth 100000 in
theorem c_X0_become (l : Launch) (D : va_G) (cI cQ cM cR : ClassId) (F : Nat → Prop) (sba : Nat) (nba : Nat) (sby : Nat) (sbn : Nat) (nby : Nat) (nbn : Nat) (hLF : ∀ (k : Nat) {q : Nat × va_E}, ([(sba, .inr (0, [.int 0, .int 0, .int 0, .ref sby, .ref sbn, .int 0, .int 0, .int 0, .int 0, .int 0, .int 99, .int 0, .int 0])), (sby, .inl (cI, 40, .inl (fun _ => 0))), (sbn, .inl (cI, 40, .inl (fun _ => 0))), (nba, .inr (0, [.int 0, .int 0, .int 0, .ref nby, .ref nbn, .int 0, .int 0, .int 0, .int 0, .int 0, .int 99, .int 0, .int 0])), (nby, .inl (cI, 40, .inl (fun _ => 0))), (nbn, .inl (cI, 40, .inl (fun _ => 0)))] : va_W)[k]? = some q → F q.1) : Met l yX0_become (ws_ yX0_become cX0_become 2 none) ({ frames := 1, cells := 0, slots := 0, locals := 40 }) (PP D cI cQ cM cR [.ref sba, .ref nba] [(sba, .inr (0, [.int 0, .int 0, .int 0, .ref sby, .ref sbn, .int 0, .int 0, .int 0, .int 0, .int 0, .int 99, .int 0, .int 0])), (sby, .inl (cI, 40, .inl (fun _ => 0))), (sbn, .inl (cI, 40, .inl (fun _ => 0))), (nba, .inr (0, [.int 0, .int 0, .int 0, .ref nby, .ref nbn, .int 0, .int 0, .int 0, .int 0, .int 0, .int 99, .int 0, .int 0])), (nby, .inl (cI, 40, .inl (fun _ => 0))), (nbn, .inl (cI, 40, .inl (fun _ => 0)))]) QI 0 0 F := by
  refine Met.ofW (cc := cX0_become) (maxL := 2) (ret := none) (by decide) rfl ?_
  intro p e s m args below meth c s₁ B hml hv
  obtain ⟨rfl, hP, hK⟩ := hv
  have hx := B.exec
  have hb := B.bytes
  have hr := B.returns
  have hts : ∀ w ∈ lw_all, w.before _ s = true := fun w h => atoms_spec (ws := (ws_ yX0_become cX0_become 2 none)) B.pre w (List.mem_cons_of_mem _ h)
  have hown : s.vm.findClass RX0 = some m.cls := findClass_of_methodNamed B.named
  have hlocks := B.notSynchronized
  have hG : sm s.heap s.heap := sm.rf
  have hLc : ∀ q ∈ ([] : List Loc), F q.base := fun q h => absurd h List.not_mem_nil
  have hP : va_P D vwCl [(sba, .inr (0, [.int 0, .int 0, .int 0, .ref sby, .ref sbn, .int 0, .int 0, .int 0, .int 0, .int 0, .int 99, .int 0, .int 0])), (sby, .inl (cI, 40, .inl (fun _ => 0))), (sbn, .inl (cI, 40, .inl (fun _ => 0))), (nba, .inr (0, [.int 0, .int 0, .int 0, .ref nby, .ref nbn, .int 0, .int 0, .int 0, .int 0, .int 0, .int 99, .int 0, .int 0])), (nby, .inl (cI, 40, .inl (fun _ => 0))), (nbn, .inl (cI, 40, .inl (fun _ => 0)))] s.heap := hP
  have hl := lv_entry ([.ref sba, .ref nba]) (n := 2) (Nat.le_of_ble_eq_true rfl)
  rw [lg_entry_eq]
  generalize (lg_sl ([.ref sba, .ref nba]) ++ List.replicate (2 - (lg_sl ([.ref sba, .ref nba])).length) Slot.unset).toArray = ls at hl ⊢
  have hl : lv_has ls 2 [(0, .ref sba), (1, .ref nba)] := hl
  obtain ⟨H, hH⟩ : ∃ H : Heap, H = s.heap := ⟨_, rfl⟩
  rw [← hH] at hP
  have hG : sm s.heap H := by rw [hH]; exact hG
  rw [← hH]
  refine lv_aload_n hx hb dX0_become_0 rfl (lv_at hl 0 rfl) ?_
  refine lv_aload_n hx hb dX0_become_1 rfl (lv_at hl 1 rfl) ?_
  refine va_get (D := D) (ci := 0) (v := .int 0) (C := RX0) (T := TX0) (N := 13) hx hb hts in_X0 hown hK hP 3 rfl rfl 0 (by decide) (hts _ q_264) (fun _ h9 => h9) rfl dX0_become_2 ?_
  refine sm_put (D := D) (ci := 0) (v := .int 0) (ty := .int) (C := RX0) (T := TX0) (N := 13) hx hb hts in_X0 hown hK hP 0 rfl rfl 0 (by decide) (hts _ q_264) (fun _ h9 => h9) rfl (by decide +kernel) rfl rfl rfl (hLF 0 rfl) dX0_become_5 hLc (fun locs hLc => ?_)
  refine lv_aload_n hx hb dX0_become_8 rfl (lv_at hl 0 rfl) ?_
  refine lv_aload_n hx hb dX0_become_9 rfl (lv_at hl 1 rfl) ?_
  refine va_get (D := D) (ci := 0) (v := .int 0) (C := RX0) (T := TX0) (N := 13) hx hb hts in_X0 hown hK hP 3 rfl rfl 1 (by decide) (hts _ q_266) (fun _ h9 => h9) rfl dX0_become_10 ?_
  refine sm_put (D := D) (ci := 0) (v := .int 0) (ty := .int) (C := RX0) (T := TX0) (N := 13) hx hb hts in_X0 hown hK hP 0 rfl rfl 1 (by decide) (hts _ q_266) (fun _ h9 => h9) rfl (by decide +kernel) rfl rfl rfl (hLF 0 rfl) dX0_become_13 hLc (fun locs hLc => ?_)
  refine lv_aload_n hx hb dX0_become_16 rfl (lv_at hl 0 rfl) ?_
  refine lv_aload_n hx hb dX0_become_17 rfl (lv_at hl 1 rfl) ?_
  refine va_get (D := D) (ci := 0) (v := .int 0) (C := RX0) (T := TX0) (N := 13) hx hb hts in_X0 hown hK hP 3 rfl rfl 2 (by decide) (hts _ q_268) (fun _ h9 => h9) rfl dX0_become_18 ?_
  refine sm_put (D := D) (ci := 0) (v := .int 0) (ty := .int) (C := RX0) (T := TX0) (N := 13) hx hb hts in_X0 hown hK hP 0 rfl rfl 2 (by decide) (hts _ q_268) (fun _ h9 => h9) rfl (by decide +kernel) rfl rfl rfl (hLF 0 rfl) dX0_become_21 hLc (fun locs hLc => ?_)
  refine lv_aload_n hx hb dX0_become_24 rfl (lv_at hl 1 rfl) ?_
  refine va_get (D := D) (ci := 0) (v := .ref nby) (C := RX0) (T := TX0) (N := 13) hx hb hts in_X0 hown hK hP 3 rfl rfl 3 (by decide) (hts _ q_270) (fun _ h9 => h9) rfl dX0_become_25 ?_
  refine lv_iconst (v := 0) hx hb dX0_become_28 (by decide) ?_
  refine lv_aload_n hx hb dX0_become_29 rfl (lv_at hl 0 rfl) ?_
  refine va_get (D := D) (ci := 0) (v := .ref sby) (C := RX0) (T := TX0) (N := 13) hx hb hts in_X0 hown hK hP 0 rfl rfl 3 (by decide) (hts _ q_270) (fun _ h9 => h9) rfl dX0_become_30 ?_
  refine lv_iconst (v := 0) hx hb dX0_become_33 (by decide) ?_
  refine lv_bipush (v := 40) hx hb dX0_become_34 (by decide) ?_
  refine sm_copyi (N' := 40) hx hb (by rw [hml]; exact hl.1.symm) hown (hts _ q_1005) (hts _ q_611) (hts _ q_610) (hts _ q_77) hK hP 4 1 rfl rfl (by decide) (by decide) (by decide) (Nat.le_of_ble_eq_true rfl) (Nat.le_of_ble_eq_true rfl) (hLF 1 rfl) (Nat.le_of_ble_eq_true rfl) (Nat.le_of_ble_eq_true rfl) dX0_become_36 hLc (fun locs hLc => ?_)
  refine lv_aload_n hx hb dX0_become_39 rfl (lv_at hl 1 rfl) ?_
  refine va_get (D := D) (ci := 0) (v := .ref nbn) (C := RX0) (T := TX0) (N := 13) hx hb hts in_X0 hown hK hP 3 rfl rfl 4 (by decide) (hts _ q_272) (fun _ h9 => h9) rfl dX0_become_40 ?_
  refine lv_iconst (v := 0) hx hb dX0_become_43 (by decide) ?_
  refine lv_aload_n hx hb dX0_become_44 rfl (lv_at hl 0 rfl) ?_
  refine va_get (D := D) (ci := 0) (v := .ref sbn) (C := RX0) (T := TX0) (N := 13) hx hb hts in_X0 hown hK hP 0 rfl rfl 4 (by decide) (hts _ q_272) (fun _ h9 => h9) rfl dX0_become_45 ?_
  refine lv_iconst (v := 0) hx hb dX0_become_48 (by decide) ?_
  refine lv_bipush (v := 40) hx hb dX0_become_49 (by decide) ?_
  refine sm_copyi (N' := 40) hx hb (by rw [hml]; exact hl.1.symm) hown (hts _ q_1005) (hts _ q_611) (hts _ q_610) (hts _ q_77) hK hP 5 2 rfl rfl (by decide) (by decide) (by decide) (Nat.le_of_ble_eq_true rfl) (Nat.le_of_ble_eq_true rfl) (hLF 2 rfl) (Nat.le_of_ble_eq_true rfl) (Nat.le_of_ble_eq_true rfl) dX0_become_51 hLc (fun locs hLc => ?_)
  refine lv_aload_n hx hb dX0_become_54 rfl (lv_at hl 0 rfl) ?_
  refine lv_aload_n hx hb dX0_become_55 rfl (lv_at hl 1 rfl) ?_
  refine va_get (D := D) (ci := 0) (v := .int 0) (C := RX0) (T := TX0) (N := 13) hx hb hts in_X0 hown hK hP 3 rfl rfl 5 (by decide) (hts _ q_274) (fun _ h9 => h9) rfl dX0_become_56 ?_
  refine sm_put (D := D) (ci := 0) (v := .int 0) (ty := .int) (C := RX0) (T := TX0) (N := 13) hx hb hts in_X0 hown hK hP 0 rfl rfl 5 (by decide) (hts _ q_274) (fun _ h9 => h9) rfl (by decide +kernel) rfl rfl rfl (hLF 0 rfl) dX0_become_59 hLc (fun locs hLc => ?_)
  refine lv_aload_n hx hb dX0_become_62 rfl (lv_at hl 0 rfl) ?_
  refine lv_aload_n hx hb dX0_become_63 rfl (lv_at hl 1 rfl) ?_
  refine va_get (D := D) (ci := 0) (v := .int 0) (C := RX0) (T := TX0) (N := 13) hx hb hts in_X0 hown hK hP 3 rfl rfl 6 (by decide) (hts _ q_276) (fun _ h9 => h9) rfl dX0_become_64 ?_
  refine sm_put (D := D) (ci := 0) (v := .int 0) (ty := .int) (C := RX0) (T := TX0) (N := 13) hx hb hts in_X0 hown hK hP 0 rfl rfl 6 (by decide) (hts _ q_276) (fun _ h9 => h9) rfl (by decide +kernel) rfl rfl rfl (hLF 0 rfl) dX0_become_67 hLc (fun locs hLc => ?_)
  refine lv_aload_n hx hb dX0_become_70 rfl (lv_at hl 0 rfl) ?_
  refine lv_aload_n hx hb dX0_become_71 rfl (lv_at hl 1 rfl) ?_
  refine va_get (D := D) (ci := 0) (v := .int 0) (C := RX0) (T := TX0) (N := 13) hx hb hts in_X0 hown hK hP 3 rfl rfl 7 (by decide) (hts _ q_278) (fun _ h9 => h9) rfl dX0_become_72 ?_
  refine sm_put (D := D) (ci := 0) (v := .int 0) (ty := .int) (C := RX0) (T := TX0) (N := 13) hx hb hts in_X0 hown hK hP 0 rfl rfl 7 (by decide) (hts _ q_278) (fun _ h9 => h9) rfl (by decide +kernel) rfl rfl rfl (hLF 0 rfl) dX0_become_75 hLc (fun locs hLc => ?_)
  refine lv_aload_n hx hb dX0_become_78 rfl (lv_at hl 0 rfl) ?_
  refine lv_aload_n hx hb dX0_become_79 rfl (lv_at hl 1 rfl) ?_
  refine va_get (D := D) (ci := 0) (v := .int 0) (C := RX0) (T := TX0) (N := 13) hx hb hts in_X0 hown hK hP 3 rfl rfl 8 (by decide) (hts _ q_280) (fun _ h9 => h9) rfl dX0_become_80 ?_
  refine sm_put (D := D) (ci := 0) (v := .int 0) (ty := .int) (C := RX0) (T := TX0) (N := 13) hx hb hts in_X0 hown hK hP 0 rfl rfl 8 (by decide) (hts _ q_280) (fun _ h9 => h9) rfl (by decide +kernel) rfl rfl rfl (hLF 0 rfl) dX0_become_83 hLc (fun locs hLc => ?_)
  refine lv_aload_n hx hb dX0_become_86 rfl (lv_at hl 0 rfl) ?_
  refine lv_aload_n hx hb dX0_become_87 rfl (lv_at hl 1 rfl) ?_
  refine va_get (D := D) (ci := 0) (v := .int 0) (C := RX0) (T := TX0) (N := 13) hx hb hts in_X0 hown hK hP 3 rfl rfl 9 (by decide) (hts _ q_282) (fun _ h9 => h9) rfl dX0_become_88 ?_
  refine sm_put (D := D) (ci := 0) (v := .int 0) (ty := .boolean) (C := RX0) (T := TX0) (N := 13) hx hb hts in_X0 hown hK hP 0 rfl rfl 9 (by decide) (hts _ q_282) (fun _ h9 => h9) rfl (by decide +kernel) rfl rfl rfl (hLF 0 rfl) dX0_become_91 hLc (fun locs hLc => ?_)
  refine lv_aload_n hx hb dX0_become_94 rfl (lv_at hl 0 rfl) ?_
  refine lv_aload_n hx hb dX0_become_95 rfl (lv_at hl 1 rfl) ?_
  refine va_get (D := D) (ci := 0) (v := .int 99) (C := RX0) (T := TX0) (N := 13) hx hb hts in_X0 hown hK hP 3 rfl rfl 10 (by decide) (hts _ q_284) (fun _ h9 => h9) rfl dX0_become_96 ?_
  refine sm_put (D := D) (ci := 0) (v := .int 99) (ty := .int) (C := RX0) (T := TX0) (N := 13) hx hb hts in_X0 hown hK hP 0 rfl rfl 10 (by decide) (hts _ q_284) (fun _ h9 => h9) rfl (by decide +kernel) rfl rfl rfl (hLF 0 rfl) dX0_become_99 hLc (fun locs hLc => ?_)
  refine lv_aload_n hx hb dX0_become_102 rfl (lv_at hl 0 rfl) ?_
  refine lv_aload_n hx hb dX0_become_103 rfl (lv_at hl 1 rfl) ?_
  refine va_get (D := D) (ci := 0) (v := .int 0) (C := RX0) (T := TX0) (N := 13) hx hb hts in_X0 hown hK hP 3 rfl rfl 11 (by decide) (hts _ q_287) (fun _ h9 => h9) rfl dX0_become_104 ?_
  refine sm_put (D := D) (ci := 0) (v := .int 0) (ty := .int) (C := RX0) (T := TX0) (N := 13) hx hb hts in_X0 hown hK hP 0 rfl rfl 11 (by decide) (hts _ q_287) (fun _ h9 => h9) rfl (by decide +kernel) rfl rfl rfl (hLF 0 rfl) dX0_become_107 hLc (fun locs hLc => ?_)
  refine lv_aload_n hx hb dX0_become_110 rfl (lv_at hl 0 rfl) ?_
  refine lv_aload_n hx hb dX0_become_111 rfl (lv_at hl 1 rfl) ?_
  refine va_get (D := D) (ci := 0) (v := .int 0) (C := RX0) (T := TX0) (N := 13) hx hb hts in_X0 hown hK hP 3 rfl rfl 12 (by decide) (hts _ q_288) (fun _ h9 => h9) rfl dX0_become_112 ?_
  refine sm_put (D := D) (ci := 0) (v := .int 0) (ty := .boolean) (C := RX0) (T := TX0) (N := 13) hx hb hts in_X0 hown hK hP 0 rfl rfl 12 (by decide) (hts _ q_288) (fun _ h9 => h9) rfl (by decide +kernel) rfl rfl rfl (hLF 0 rfl) dX0_become_115 hLc (fun locs hLc => ?_)
  exact W.vret hx hb hr (fun t ht hW => ⟨rfl, by rw [ht]; exact hG⟩) hLc dX0_become_118
theorem dX1_become_0 : decode cX1_become 0 = .ok (.aload_n 0, 1) := by decide +kernel
theorem dX1_become_1 : decode cX1_become 1 = .ok (.aload_n 1, 1) := by decide +kernel
theorem dX1_become_2 : decode cX1_become 2 = .ok (.getfield 9, 3) := by decide +kernel
theorem dX1_become_5 : decode cX1_become 5 = .ok (.putfield 9, 3) := by decide +kernel
theorem dX1_become_8 : decode cX1_become 8 = .ok (.aload_n 0, 1) := by decide +kernel
theorem dX1_become_9 : decode cX1_become 9 = .ok (.aload_n 1, 1) := by decide +kernel
theorem dX1_become_10 : decode cX1_become 10 = .ok (.getfield 15, 3) := by decide +kernel
theorem dX1_become_13 : decode cX1_become 13 = .ok (.putfield 15, 3) := by decide +kernel
theorem dX1_become_16 : decode cX1_become 16 = .ok (.aload_n 0, 1) := by decide +kernel
theorem dX1_become_17 : decode cX1_become 17 = .ok (.aload_n 1, 1) := by decide +kernel
theorem dX1_become_18 : decode cX1_become 18 = .ok (.getfield 19, 3) := by decide +kernel
theorem dX1_become_21 : decode cX1_become 21 = .ok (.putfield 19, 3) := by decide +kernel
theorem dX1_become_24 : decode cX1_become 24 = .ok (.return_, 1) := by decide +kernel
set_option maxRecDepth 100000 in
theorem q_325 : (.fieldLink RX1 15 "AssemblyChair$Debate" "isClosed" "Z") ∈ lw_all := List.mem_filter.mpr ⟨List.mem_of_getElem? (i := 325) (by decide +kernel), by decide +kernel⟩
set_option maxRecDepth 100000 in
theorem q_327 : (.fieldLink RX1 19 "AssemblyChair$Debate" "rejectedKinds" "I") ∈ lw_all := List.mem_filter.mpr ⟨List.mem_of_getElem? (i := 327) (by decide +kernel), by decide +kernel⟩
set_option maxHeartbeats 4000000 in
set_option maxRecDepth 100000 in
theorem c_X1_become (l : Launch) (D : va_G) (cI cQ cM cR : ClassId) (F : Nat → Prop) (sde : Nat) (nde : Nat) (hLF : ∀ (k : Nat) {q : Nat × va_E}, ([(sde, .inr (1, [.int (-5), .int 0, .int 0])), (nde, .inr (1, [.int (-5), .int 0, .int 0]))] : va_W)[k]? = some q → F q.1) : Met l yX1_become (ws_ yX1_become cX1_become 2 none) ({ frames := 0, cells := 0, slots := 0, locals := 0 }) (PP D cI cQ cM cR [.ref sde, .ref nde] [(sde, .inr (1, [.int (-5), .int 0, .int 0])), (nde, .inr (1, [.int (-5), .int 0, .int 0]))]) QI 0 0 F := by
  refine Met.ofW (cc := cX1_become) (maxL := 2) (ret := none) (by decide) rfl ?_
  intro p e s m args below meth c s₁ B hml hv
  obtain ⟨rfl, hP, hK⟩ := hv
  have hx := B.exec
  have hb := B.bytes
  have hr := B.returns
  have hts : ∀ w ∈ lw_all, w.before _ s = true := fun w h => atoms_spec (ws := (ws_ yX1_become cX1_become 2 none)) B.pre w (List.mem_cons_of_mem _ h)
  have hown : s.vm.findClass RX1 = some m.cls := findClass_of_methodNamed B.named
  have hlocks := B.notSynchronized
  have hG : sm s.heap s.heap := sm.rf
  have hLc : ∀ q ∈ ([] : List Loc), F q.base := fun q h => absurd h List.not_mem_nil
  have hP : va_P D vwCl [(sde, .inr (1, [.int (-5), .int 0, .int 0])), (nde, .inr (1, [.int (-5), .int 0, .int 0]))] s.heap := hP
  have hl := lv_entry ([.ref sde, .ref nde]) (n := 2) (Nat.le_of_ble_eq_true rfl)
  rw [lg_entry_eq]
  generalize (lg_sl ([.ref sde, .ref nde]) ++ List.replicate (2 - (lg_sl ([.ref sde, .ref nde])).length) Slot.unset).toArray = ls at hl ⊢
  have hl : lv_has ls 2 [(0, .ref sde), (1, .ref nde)] := hl
  obtain ⟨H, hH⟩ : ∃ H : Heap, H = s.heap := ⟨_, rfl⟩
  rw [← hH] at hP
  have hG : sm s.heap H := by rw [hH]; exact hG
  rw [← hH]
  refine lv_aload_n hx hb dX1_become_0 rfl (lv_at hl 0 rfl) ?_
  refine lv_aload_n hx hb dX1_become_1 rfl (lv_at hl 1 rfl) ?_
  refine va_get (D := D) (ci := 1) (v := .int (-5)) (C := RX1) (T := TX1) (N := 3) hx hb hts in_X1 hown hK hP 1 rfl rfl 0 (by decide) (hts _ q_322) (fun _ h9 => h9) rfl dX1_become_2 ?_
  refine sm_put (D := D) (ci := 1) (v := .int (-5)) (ty := .int) (C := RX1) (T := TX1) (N := 3) hx hb hts in_X1 hown hK hP 0 rfl rfl 0 (by decide) (hts _ q_322) (fun _ h9 => h9) rfl (by decide +kernel) rfl rfl rfl (hLF 0 rfl) dX1_become_5 hLc (fun locs hLc => ?_)
  refine lv_aload_n hx hb dX1_become_8 rfl (lv_at hl 0 rfl) ?_
  refine lv_aload_n hx hb dX1_become_9 rfl (lv_at hl 1 rfl) ?_
  refine va_get (D := D) (ci := 1) (v := .int 0) (C := RX1) (T := TX1) (N := 3) hx hb hts in_X1 hown hK hP 1 rfl rfl 1 (by decide) (hts _ q_325) (fun _ h9 => h9) rfl dX1_become_10 ?_
  refine sm_put (D := D) (ci := 1) (v := .int 0) (ty := .boolean) (C := RX1) (T := TX1) (N := 3) hx hb hts in_X1 hown hK hP 0 rfl rfl 1 (by decide) (hts _ q_325) (fun _ h9 => h9) rfl (by decide +kernel) rfl rfl rfl (hLF 0 rfl) dX1_become_13 hLc (fun locs hLc => ?_)
  refine lv_aload_n hx hb dX1_become_16 rfl (lv_at hl 0 rfl) ?_
  refine lv_aload_n hx hb dX1_become_17 rfl (lv_at hl 1 rfl) ?_
  refine va_get (D := D) (ci := 1) (v := .int 0) (C := RX1) (T := TX1) (N := 3) hx hb hts in_X1 hown hK hP 1 rfl rfl 2 (by decide) (hts _ q_327) (fun _ h9 => h9) rfl dX1_become_18 ?_
  refine sm_put (D := D) (ci := 1) (v := .int 0) (ty := .int) (C := RX1) (T := TX1) (N := 3) hx hb hts in_X1 hown hK hP 0 rfl rfl 2 (by decide) (hts _ q_327) (fun _ h9 => h9) rfl (by decide +kernel) rfl rfl rfl (hLF 0 rfl) dX1_become_21 hLc (fun locs hLc => ?_)
  exact W.vret hx hb hr (fun t ht hW => ⟨rfl, by rw [ht]; exact hG⟩) hLc dX1_become_24
theorem dX9_become_0 : decode cX9_become 0 = .ok (.aload_n 0, 1) := by decide +kernel
theorem dX9_become_1 : decode cX9_become 1 = .ok (.aload_n 1, 1) := by decide +kernel
theorem dX9_become_2 : decode cX9_become 2 = .ok (.getfield 24, 3) := by decide +kernel
theorem dX9_become_5 : decode cX9_become 5 = .ok (.putfield 24, 3) := by decide +kernel
theorem dX9_become_8 : decode cX9_become 8 = .ok (.iconst 0, 1) := by decide +kernel
theorem dX9_become_9 : decode cX9_become 9 = .ok (.istore_n 2, 1) := by decide +kernel
theorem dX9_become_10 : decode cX9_become 10 = .ok (.iload_n 2, 1) := by decide +kernel
theorem dX9_become_11 : decode cX9_become 11 = .ok (.aload_n 0, 1) := by decide +kernel
theorem dX9_become_12 : decode cX9_become 12 = .ok (.getfield 24, 3) := by decide +kernel
theorem dX9_become_15 : decode cX9_become 15 = .ok (.if_icmp .ge 45, 3) := by decide +kernel
theorem dX9_become_60 : decode cX9_become 60 = .ok (.return_, 1) := by decide +kernel
set_option maxHeartbeats 4000000 in
set_option maxRecDepth 100000 in
theorem c_X9_become (l : Launch) (D : va_G) (cI cQ cM cR : ClassId) (F : Nat → Prop) (ssh : Nat) (nsh : Nat) (sst : Nat) (sss : Nat) (ssp : Nat) (nst : Nat) (nss : Nat) (nsp : Nat) (hLF : ∀ (k : Nat) {q : Nat × va_E}, ([(ssh, .inr (9, [.int 0, .ref sst, .ref sss, .ref ssp])), (sst, .inl (cM, 160, .inr (.inr (.inr (.inr (fun _ => none)))))), (sss, .inl (cI, 160, .inl (fun _ => 0))), (ssp, .inl (cI, 160, .inl (fun _ => 0))), (nsh, .inr (9, [.int 0, .ref nst, .ref nss, .ref nsp])), (nst, .inl (cM, 160, .inr (.inr (.inr (.inr (fun _ => none)))))), (nss, .inl (cI, 160, .inl (fun _ => 0))), (nsp, .inl (cI, 160, .inl (fun _ => 0)))] : va_W)[k]? = some q → F q.1) : Met l yX9_become (ws_ yX9_become cX9_become 3 none) ({ frames := 0, cells := 0, slots := 0, locals := 0 }) (PP D cI cQ cM cR [.ref ssh, .ref nsh] [(ssh, .inr (9, [.int 0, .ref sst, .ref sss, .ref ssp])), (sst, .inl (cM, 160, .inr (.inr (.inr (.inr (fun _ => none)))))), (sss, .inl (cI, 160, .inl (fun _ => 0))), (ssp, .inl (cI, 160, .inl (fun _ => 0))), (nsh, .inr (9, [.int 0, .ref nst, .ref nss, .ref nsp])), (nst, .inl (cM, 160, .inr (.inr (.inr (.inr (fun _ => none)))))), (nss, .inl (cI, 160, .inl (fun _ => 0))), (nsp, .inl (cI, 160, .inl (fun _ => 0)))]) QI 0 0 F := by
  refine Met.ofW (cc := cX9_become) (maxL := 3) (ret := none) (by decide) rfl ?_
  intro p e s m args below meth c s₁ B hml hv
  obtain ⟨rfl, hP, hK⟩ := hv
  have hx := B.exec
  have hb := B.bytes
  have hr := B.returns
  have hts : ∀ w ∈ lw_all, w.before _ s = true := fun w h => atoms_spec (ws := (ws_ yX9_become cX9_become 3 none)) B.pre w (List.mem_cons_of_mem _ h)
  have hown : s.vm.findClass RX9 = some m.cls := findClass_of_methodNamed B.named
  have hlocks := B.notSynchronized
  have hG : sm s.heap s.heap := sm.rf
  have hLc : ∀ q ∈ ([] : List Loc), F q.base := fun q h => absurd h List.not_mem_nil
  have hP : va_P D vwCl [(ssh, .inr (9, [.int 0, .ref sst, .ref sss, .ref ssp])), (sst, .inl (cM, 160, .inr (.inr (.inr (.inr (fun _ => none)))))), (sss, .inl (cI, 160, .inl (fun _ => 0))), (ssp, .inl (cI, 160, .inl (fun _ => 0))), (nsh, .inr (9, [.int 0, .ref nst, .ref nss, .ref nsp])), (nst, .inl (cM, 160, .inr (.inr (.inr (.inr (fun _ => none)))))), (nss, .inl (cI, 160, .inl (fun _ => 0))), (nsp, .inl (cI, 160, .inl (fun _ => 0)))] s.heap := hP
  have hl := lv_entry ([.ref ssh, .ref nsh]) (n := 3) (Nat.le_of_ble_eq_true rfl)
  rw [lg_entry_eq]
  generalize (lg_sl ([.ref ssh, .ref nsh]) ++ List.replicate (3 - (lg_sl ([.ref ssh, .ref nsh])).length) Slot.unset).toArray = ls at hl ⊢
  have hl : lv_has ls 3 [(0, .ref ssh), (1, .ref nsh)] := hl
  obtain ⟨H, hH⟩ : ∃ H : Heap, H = s.heap := ⟨_, rfl⟩
  rw [← hH] at hP
  have hG : sm s.heap H := by rw [hH]; exact hG
  rw [← hH]
  refine lv_aload_n hx hb dX9_become_0 rfl (lv_at hl 0 rfl) ?_
  refine lv_aload_n hx hb dX9_become_1 rfl (lv_at hl 1 rfl) ?_
  refine va_get (D := D) (ci := 9) (v := .int 0) (C := RX9) (T := TX9) (N := 4) hx hb hts in_X9 hown hK hP 4 rfl rfl 0 (by decide) (hts _ q_210) (fun _ h9 => h9) rfl dX9_become_2 ?_
  refine sm_put (D := D) (ci := 9) (v := .int 0) (ty := .int) (C := RX9) (T := TX9) (N := 4) hx hb hts in_X9 hown hK hP 0 rfl rfl 0 (by decide) (hts _ q_210) (fun _ h9 => h9) rfl (by decide +kernel) rfl rfl rfl (hLF 0 rfl) dX9_become_5 hLc (fun locs hLc => ?_)
  refine lv_iconst (v := 0) hx hb dX9_become_8 (by decide) ?_
  refine lv_istore_n (lv' := [(2, .int 0), (0, .ref ssh), (1, .ref nsh)]) hx hb dX9_become_9 rfl hl (by decide) rfl (fun ls hl => ?_)
  refine lv_iload_n hx hb dX9_become_10 rfl (lv_at hl 0 rfl) ?_
  refine lv_aload_n hx hb dX9_become_11 rfl (lv_at hl 1 rfl) ?_
  refine va_get (D := D) (ci := 9) (v := .int 0) (C := RX9) (T := TX9) (N := 4) hx hb hts in_X9 hown hK hP 0 rfl rfl 0 (by decide) (hts _ q_210) (fun _ h9 => h9) rfl dX9_become_12 ?_
  refine lv_icmp_ge (tgt := 60) hx hb dX9_become_15 (by decide) (fun _ => ?_) (fun c9 => absurd (by decide) c9)
  exact W.vret hx hb hr (fun t ht hW => ⟨rfl, by rw [ht]; exact hG⟩) hLc dX9_become_60
theorem dX5_become_78 : decode cX5_become 78 = .ok (.iload_n 2, 1) := by decide +kernel
theorem dX5_become_79 : decode cX5_become 79 = .ok (.bipush 120, 2) := by decide +kernel
theorem dX5_become_81 : decode cX5_become 81 = .ok (.if_icmp .ge 21, 3) := by decide +kernel
theorem dX5_become_84 : decode cX5_become 84 = .ok (.aload_n 0, 1) := by decide +kernel
theorem dX5_become_85 : decode cX5_become 85 = .ok (.getfield 26, 3) := by decide +kernel
theorem dX5_become_88 : decode cX5_become 88 = .ok (.iload_n 2, 1) := by decide +kernel
theorem dX5_become_89 : decode cX5_become 89 = .ok (.aload_n 1, 1) := by decide +kernel
theorem dX5_become_90 : decode cX5_become 90 = .ok (.getfield 26, 3) := by decide +kernel
theorem dX5_become_93 : decode cX5_become 93 = .ok (.iload_n 2, 1) := by decide +kernel
theorem dX5_become_94 : decode cX5_become 94 = .ok (.aaload, 1) := by decide +kernel
theorem dX5_become_95 : decode cX5_become 95 = .ok (.aastore, 1) := by decide +kernel
theorem dX5_become_96 : decode cX5_become 96 = .ok (.iinc 2 1, 3) := by decide +kernel
theorem dX5_become_99 : decode cX5_become 99 = .ok (.goto (-21), 3) := by decide +kernel
section MLOOP
variable {p : Program} {l : Launch} {e : Env} {R : Room} {s : State} {m : MethodId} {args : Array Value} {below : List Frame} {meth : Method} {c : Code} {H : Heap} {cells slots : Nat} {Q : State → Prop}
variable {D : va_G} {F : Nat → Prop} {cI cQ cM cR : ClassId} {smi nmi sma smb smc smd smm nma nmb nmc nmd nmm : Nat}
set_option maxHeartbeats 4000000 in
set_option maxRecDepth 100000 in
theorem minutes_loop (hx : p.tables.exec = Jvm.exec) (hb : c.code = cX5_become) (hown : s.vm.findClass RX5 = some m.cls) (hts : ∀ w ∈ lw_all, w.before args s = true) (hK : va_K D vwCl (TY cI cQ cM cR) s) (hLF : ∀ (k : Nat) {q : Nat × va_E}, ([(smi, .inr (5, [.int 0, .int 0, .ref sma, .ref smb, .ref smc, .ref smd, .ref smm])), (sma, .inl (cI, 120, .inl (fun _ => 0))), (smb, .inl (cI, 120, .inl (fun _ => 0))), (smc, .inl (cI, 120, .inl (fun _ => 0))), (smd, .inl (cI, 120, .inl (fun _ => 0))), (smm, .inl (cM, 120, .inr (.inr (.inr (.inr (fun _ => none)))))), (nmi, .inr (5, [.int 0, .int 0, .ref nma, .ref nmb, .ref nmc, .ref nmd, .ref nmm])), (nma, .inl (cI, 120, .inl (fun _ => 0))), (nmb, .inl (cI, 120, .inl (fun _ => 0))), (nmc, .inl (cI, 120, .inl (fun _ => 0))), (nmd, .inl (cI, 120, .inl (fun _ => 0))), (nmm, .inl (cM, 120, .inr (.inr (.inr (.inr (fun _ => none))))))] : va_W)[k]? = some q → F q.1) (hP : va_P D vwCl [(smi, .inr (5, [.int 0, .int 0, .ref sma, .ref smb, .ref smc, .ref smd, .ref smm])), (sma, .inl (cI, 120, .inl (fun _ => 0))), (smb, .inl (cI, 120, .inl (fun _ => 0))), (smc, .inl (cI, 120, .inl (fun _ => 0))), (smd, .inl (cI, 120, .inl (fun _ => 0))), (smm, .inl (cM, 120, .inr (.inr (.inr (.inr (fun _ => none)))))), (nmi, .inr (5, [.int 0, .int 0, .ref nma, .ref nmb, .ref nmc, .ref nmd, .ref nmm])), (nma, .inl (cI, 120, .inl (fun _ => 0))), (nmb, .inl (cI, 120, .inl (fun _ => 0))), (nmc, .inl (cI, 120, .inl (fun _ => 0))), (nmd, .inl (cI, 120, .inl (fun _ => 0))), (nmm, .inl (cM, 120, .inr (.inr (.inr (.inr (fun _ => none))))))] H)
    (kk : ∀ (locs : List Loc) (ls : Array Slot), (∀ q ∈ locs, F q.base) → lv_has ls 3 [(2, .int (nI 120)), (0, .ref smi), (1, .ref nmi)] → W p l e R s m args below meth c H locs cells slots Q (F0 m 102 ls [])) :
    ∀ (n i : Nat), i + n = 120 → ∀ (locs : List Loc) (ls : Array Slot), (∀ q ∈ locs, F q.base) → lv_has ls 3 [(2, .int (nI i)), (0, .ref smi), (1, .ref nmi)] → W p l e R s m args below meth c H locs cells slots Q (F0 m 78 ls []) := by
  intro n
  induction n with
  | zero =>
    intro i hin locs ls hLc hl
    obtain rfl : i = 120 := by omega
    refine lv_iload_n hx hb dX5_become_78 rfl (lv_at hl 0 rfl) ?_
    refine lv_bipush (v := 120) hx hb dX5_become_79 (by decide) ?_
    refine lv_icmp_ge (tgt := 102) hx hb dX5_become_81 (by decide) (fun _ => ?_) (fun c9 => absurd (by decide) c9)
    exact kk locs ls hLc hl
  | succ n ih =>
    intro i hin locs ls hLc hl
    have hi : i < 120 := by omega
    refine lv_iload_n hx hb dX5_become_78 rfl (lv_at hl 0 rfl) ?_
    refine lv_bipush (v := 120) hx hb dX5_become_79 (by decide) ?_
    refine lv_icmp_ge (tgt := 102) hx hb dX5_become_81 (by decide) (fun c9 => absurd c9 (show ¬ (120 : Int32) ≤ nI i from nI_ge hi (by decide))) (fun _ => ?_)
    refine lv_aload_n hx hb dX5_become_84 rfl (lv_at hl 1 rfl) ?_
    refine va_get (D := D) (ci := 5) (v := .ref smm) (C := RX5) (T := TX5) (N := 7) hx hb hts in_X5 hown hK hP 0 rfl rfl 6 (by decide) (hts _ q_242) (fun _ h9 => h9) rfl dX5_become_85 ?_
    refine lv_iload_n hx hb dX5_become_88 rfl (lv_at hl 0 rfl) ?_
    refine lv_aload_n hx hb dX5_become_89 rfl (lv_at hl 2 rfl) ?_
    refine va_get (D := D) (ci := 5) (v := .ref nmm) (C := RX5) (T := TX5) (N := 7) hx hb hts in_X5 hown hK hP 6 rfl rfl 6 (by decide) (hts _ q_242) (fun _ h9 => h9) rfl dX5_become_90 ?_
    refine lv_iload_n hx hb dX5_become_93 rfl (lv_at hl 0 rfl) ?_
    refine va_aldq hx hb hK hP 11 2 rfl rfl (i := nI i) (vp_in_nI hi (by decide)) dX5_become_94 ?_
    refine lv_vst (v := .null) rfl ?_
    refine sm_astqN hx hb hK hP 5 2 rfl rfl (i := nI i) (vp_in_nI hi (by decide)) (hLF 5 rfl) dX5_become_95 hLc (fun locs hLc => ?_)
    refine lv_iinc (v := nI (i + 1)) (lv' := [(2, .int (nI (i + 1))), (0, .ref smi), (1, .ref nmi)]) hx hb dX5_become_96 hl (k := 0) rfl (nI_1 i) (by decide) rfl (fun ls hl => ?_)
    refine lv_goto (tgt := 78) hx hb dX5_become_99 (by decide) ?_
    exact ih (i + 1) (by omega) locs ls hLc hl
end MLOOP
theorem dX5_become_0 : decode cX5_become 0 = .ok (.aload_n 0, 1) := by decide +kernel
theorem dX5_become_1 : decode cX5_become 1 = .ok (.aload_n 1, 1) := by decide +kernel
theorem dX5_become_2 : decode cX5_become 2 = .ok (.getfield 30, 3) := by decide +kernel
theorem dX5_become_5 : decode cX5_become 5 = .ok (.putfield 30, 3) := by decide +kernel
theorem dX5_become_8 : decode cX5_become 8 = .ok (.aload_n 0, 1) := by decide +kernel
theorem dX5_become_9 : decode cX5_become 9 = .ok (.aload_n 1, 1) := by decide +kernel
theorem dX5_become_10 : decode cX5_become 10 = .ok (.getfield 34, 3) := by decide +kernel
theorem dX5_become_13 : decode cX5_become 13 = .ok (.putfield 34, 3) := by decide +kernel
theorem dX5_become_16 : decode cX5_become 16 = .ok (.aload_n 1, 1) := by decide +kernel
theorem dX5_become_17 : decode cX5_become 17 = .ok (.getfield 9, 3) := by decide +kernel
theorem dX5_become_20 : decode cX5_become 20 = .ok (.iconst 0, 1) := by decide +kernel
theorem dX5_become_21 : decode cX5_become 21 = .ok (.aload_n 0, 1) := by decide +kernel
theorem dX5_become_22 : decode cX5_become 22 = .ok (.getfield 9, 3) := by decide +kernel
theorem dX5_become_25 : decode cX5_become 25 = .ok (.iconst 0, 1) := by decide +kernel
theorem dX5_become_26 : decode cX5_become 26 = .ok (.bipush 120, 2) := by decide +kernel
theorem dX5_become_28 : decode cX5_become 28 = .ok (.invokestatic 37, 3) := by decide +kernel
theorem dX5_become_31 : decode cX5_become 31 = .ok (.aload_n 1, 1) := by decide +kernel
theorem dX5_become_32 : decode cX5_become 32 = .ok (.getfield 15, 3) := by decide +kernel
theorem dX5_become_35 : decode cX5_become 35 = .ok (.iconst 0, 1) := by decide +kernel
theorem dX5_become_36 : decode cX5_become 36 = .ok (.aload_n 0, 1) := by decide +kernel
theorem dX5_become_37 : decode cX5_become 37 = .ok (.getfield 15, 3) := by decide +kernel
theorem dX5_become_40 : decode cX5_become 40 = .ok (.iconst 0, 1) := by decide +kernel
theorem dX5_become_41 : decode cX5_become 41 = .ok (.bipush 120, 2) := by decide +kernel
theorem dX5_become_43 : decode cX5_become 43 = .ok (.invokestatic 37, 3) := by decide +kernel
theorem dX5_become_46 : decode cX5_become 46 = .ok (.aload_n 1, 1) := by decide +kernel
theorem dX5_become_47 : decode cX5_become 47 = .ok (.getfield 18, 3) := by decide +kernel
theorem dX5_become_50 : decode cX5_become 50 = .ok (.iconst 0, 1) := by decide +kernel
theorem dX5_become_51 : decode cX5_become 51 = .ok (.aload_n 0, 1) := by decide +kernel
theorem dX5_become_52 : decode cX5_become 52 = .ok (.getfield 18, 3) := by decide +kernel
theorem dX5_become_55 : decode cX5_become 55 = .ok (.iconst 0, 1) := by decide +kernel
theorem dX5_become_56 : decode cX5_become 56 = .ok (.bipush 120, 2) := by decide +kernel
theorem dX5_become_58 : decode cX5_become 58 = .ok (.invokestatic 37, 3) := by decide +kernel
theorem dX5_become_61 : decode cX5_become 61 = .ok (.aload_n 1, 1) := by decide +kernel
theorem dX5_become_62 : decode cX5_become 62 = .ok (.getfield 21, 3) := by decide +kernel
theorem dX5_become_65 : decode cX5_become 65 = .ok (.iconst 0, 1) := by decide +kernel
theorem dX5_become_66 : decode cX5_become 66 = .ok (.aload_n 0, 1) := by decide +kernel
theorem dX5_become_67 : decode cX5_become 67 = .ok (.getfield 21, 3) := by decide +kernel
theorem dX5_become_70 : decode cX5_become 70 = .ok (.iconst 0, 1) := by decide +kernel
theorem dX5_become_71 : decode cX5_become 71 = .ok (.bipush 120, 2) := by decide +kernel
theorem dX5_become_73 : decode cX5_become 73 = .ok (.invokestatic 37, 3) := by decide +kernel
theorem dX5_become_76 : decode cX5_become 76 = .ok (.iconst 0, 1) := by decide +kernel
theorem dX5_become_77 : decode cX5_become 77 = .ok (.istore_n 2, 1) := by decide +kernel
theorem dX5_become_102 : decode cX5_become 102 = .ok (.return_, 1) := by decide +kernel
set_option maxRecDepth 100000 in
theorem q_230 : (.fieldLink RX5 30 "AssemblyChair$Minutes" "total" "I") ∈ lw_all := List.mem_filter.mpr ⟨List.mem_of_getElem? (i := 230) (by decide +kernel), by decide +kernel⟩
set_option maxRecDepth 100000 in
theorem q_232 : (.fieldLink RX5 34 "AssemblyChair$Minutes" "kept" "I") ∈ lw_all := List.mem_filter.mpr ⟨List.mem_of_getElem? (i := 232) (by decide +kernel), by decide +kernel⟩
set_option maxRecDepth 100000 in
theorem q_1000 : (.methodLink RX5 37 arraycopyName) ∈ lw_all := List.mem_filter.mpr ⟨List.mem_of_getElem? (i := 1000) (by decide +kernel), by decide +kernel⟩
set_option maxHeartbeats 4000000 in
set_option maxRecDepth 100000 in
theorem c_X5_become (l : Launch) (D : va_G) (cI cQ cM cR : ClassId) (F : Nat → Prop) (smi : Nat) (nmi : Nat) (sma : Nat) (smb : Nat) (smc : Nat) (smd : Nat) (smm : Nat) (nma : Nat) (nmb : Nat) (nmc : Nat) (nmd : Nat) (nmm : Nat) (hLF : ∀ (k : Nat) {q : Nat × va_E}, ([(smi, .inr (5, [.int 0, .int 0, .ref sma, .ref smb, .ref smc, .ref smd, .ref smm])), (sma, .inl (cI, 120, .inl (fun _ => 0))), (smb, .inl (cI, 120, .inl (fun _ => 0))), (smc, .inl (cI, 120, .inl (fun _ => 0))), (smd, .inl (cI, 120, .inl (fun _ => 0))), (smm, .inl (cM, 120, .inr (.inr (.inr (.inr (fun _ => none)))))), (nmi, .inr (5, [.int 0, .int 0, .ref nma, .ref nmb, .ref nmc, .ref nmd, .ref nmm])), (nma, .inl (cI, 120, .inl (fun _ => 0))), (nmb, .inl (cI, 120, .inl (fun _ => 0))), (nmc, .inl (cI, 120, .inl (fun _ => 0))), (nmd, .inl (cI, 120, .inl (fun _ => 0))), (nmm, .inl (cM, 120, .inr (.inr (.inr (.inr (fun _ => none))))))] : va_W)[k]? = some q → F q.1) : Met l yX5_become (ws_ yX5_become cX5_become 3 none) ({ frames := 1, cells := 0, slots := 0, locals := 40 }) (PP D cI cQ cM cR [.ref smi, .ref nmi] [(smi, .inr (5, [.int 0, .int 0, .ref sma, .ref smb, .ref smc, .ref smd, .ref smm])), (sma, .inl (cI, 120, .inl (fun _ => 0))), (smb, .inl (cI, 120, .inl (fun _ => 0))), (smc, .inl (cI, 120, .inl (fun _ => 0))), (smd, .inl (cI, 120, .inl (fun _ => 0))), (smm, .inl (cM, 120, .inr (.inr (.inr (.inr (fun _ => none)))))), (nmi, .inr (5, [.int 0, .int 0, .ref nma, .ref nmb, .ref nmc, .ref nmd, .ref nmm])), (nma, .inl (cI, 120, .inl (fun _ => 0))), (nmb, .inl (cI, 120, .inl (fun _ => 0))), (nmc, .inl (cI, 120, .inl (fun _ => 0))), (nmd, .inl (cI, 120, .inl (fun _ => 0))), (nmm, .inl (cM, 120, .inr (.inr (.inr (.inr (fun _ => none))))))]) QI 0 0 F := by
  refine Met.ofW (cc := cX5_become) (maxL := 3) (ret := none) (by decide) rfl ?_
  intro p e s m args below meth c s₁ B hml hv
  obtain ⟨rfl, hP, hK⟩ := hv
  have hx := B.exec
  have hb := B.bytes
  have hr := B.returns
  have hts : ∀ w ∈ lw_all, w.before _ s = true := fun w h => atoms_spec (ws := (ws_ yX5_become cX5_become 3 none)) B.pre w (List.mem_cons_of_mem _ h)
  have hown : s.vm.findClass RX5 = some m.cls := findClass_of_methodNamed B.named
  have hlocks := B.notSynchronized
  have hG : sm s.heap s.heap := sm.rf
  have hLc : ∀ q ∈ ([] : List Loc), F q.base := fun q h => absurd h List.not_mem_nil
  have hP : va_P D vwCl [(smi, .inr (5, [.int 0, .int 0, .ref sma, .ref smb, .ref smc, .ref smd, .ref smm])), (sma, .inl (cI, 120, .inl (fun _ => 0))), (smb, .inl (cI, 120, .inl (fun _ => 0))), (smc, .inl (cI, 120, .inl (fun _ => 0))), (smd, .inl (cI, 120, .inl (fun _ => 0))), (smm, .inl (cM, 120, .inr (.inr (.inr (.inr (fun _ => none)))))), (nmi, .inr (5, [.int 0, .int 0, .ref nma, .ref nmb, .ref nmc, .ref nmd, .ref nmm])), (nma, .inl (cI, 120, .inl (fun _ => 0))), (nmb, .inl (cI, 120, .inl (fun _ => 0))), (nmc, .inl (cI, 120, .inl (fun _ => 0))), (nmd, .inl (cI, 120, .inl (fun _ => 0))), (nmm, .inl (cM, 120, .inr (.inr (.inr (.inr (fun _ => none))))))] s.heap := hP
  have hl := lv_entry ([.ref smi, .ref nmi]) (n := 3) (Nat.le_of_ble_eq_true rfl)
  rw [lg_entry_eq]
  generalize (lg_sl ([.ref smi, .ref nmi]) ++ List.replicate (3 - (lg_sl ([.ref smi, .ref nmi])).length) Slot.unset).toArray = ls at hl ⊢
  have hl : lv_has ls 3 [(0, .ref smi), (1, .ref nmi)] := hl
  obtain ⟨H, hH⟩ : ∃ H : Heap, H = s.heap := ⟨_, rfl⟩
  rw [← hH] at hP
  have hG : sm s.heap H := by rw [hH]; exact hG
  rw [← hH]
  refine lv_aload_n hx hb dX5_become_0 rfl (lv_at hl 0 rfl) ?_
  refine lv_aload_n hx hb dX5_become_1 rfl (lv_at hl 1 rfl) ?_
  refine va_get (D := D) (ci := 5) (v := .int 0) (C := RX5) (T := TX5) (N := 7) hx hb hts in_X5 hown hK hP 6 rfl rfl 0 (by decide) (hts _ q_230) (fun _ h9 => h9) rfl dX5_become_2 ?_
  refine sm_put (D := D) (ci := 5) (v := .int 0) (ty := .int) (C := RX5) (T := TX5) (N := 7) hx hb hts in_X5 hown hK hP 0 rfl rfl 0 (by decide) (hts _ q_230) (fun _ h9 => h9) rfl (by decide +kernel) rfl rfl rfl (hLF 0 rfl) dX5_become_5 hLc (fun locs hLc => ?_)
  refine lv_aload_n hx hb dX5_become_8 rfl (lv_at hl 0 rfl) ?_
  refine lv_aload_n hx hb dX5_become_9 rfl (lv_at hl 1 rfl) ?_
  refine va_get (D := D) (ci := 5) (v := .int 0) (C := RX5) (T := TX5) (N := 7) hx hb hts in_X5 hown hK hP 6 rfl rfl 1 (by decide) (hts _ q_232) (fun _ h9 => h9) rfl dX5_become_10 ?_
  refine sm_put (D := D) (ci := 5) (v := .int 0) (ty := .int) (C := RX5) (T := TX5) (N := 7) hx hb hts in_X5 hown hK hP 0 rfl rfl 1 (by decide) (hts _ q_232) (fun _ h9 => h9) rfl (by decide +kernel) rfl rfl rfl (hLF 0 rfl) dX5_become_13 hLc (fun locs hLc => ?_)
  refine lv_aload_n hx hb dX5_become_16 rfl (lv_at hl 1 rfl) ?_
  refine va_get (D := D) (ci := 5) (v := .ref nma) (C := RX5) (T := TX5) (N := 7) hx hb hts in_X5 hown hK hP 6 rfl rfl 2 (by decide) (hts _ q_234) (fun _ h9 => h9) rfl dX5_become_17 ?_
  refine lv_iconst (v := 0) hx hb dX5_become_20 (by decide) ?_
  refine lv_aload_n hx hb dX5_become_21 rfl (lv_at hl 0 rfl) ?_
  refine va_get (D := D) (ci := 5) (v := .ref sma) (C := RX5) (T := TX5) (N := 7) hx hb hts in_X5 hown hK hP 0 rfl rfl 2 (by decide) (hts _ q_234) (fun _ h9 => h9) rfl dX5_become_22 ?_
  refine lv_iconst (v := 0) hx hb dX5_become_25 (by decide) ?_
  refine lv_bipush (v := 120) hx hb dX5_become_26 (by decide) ?_
  refine sm_copyi (N' := 120) hx hb (by rw [hml]; exact hl.1.symm) hown (hts _ q_1000) (hts _ q_611) (hts _ q_610) (hts _ q_77) hK hP 7 1 rfl rfl (by decide) (by decide) (by decide) (Nat.le_of_ble_eq_true rfl) (Nat.le_of_ble_eq_true rfl) (hLF 1 rfl) (Nat.le_of_ble_eq_true rfl) (Nat.le_of_ble_eq_true rfl) dX5_become_28 hLc (fun locs hLc => ?_)
  refine lv_aload_n hx hb dX5_become_31 rfl (lv_at hl 1 rfl) ?_
  refine va_get (D := D) (ci := 5) (v := .ref nmb) (C := RX5) (T := TX5) (N := 7) hx hb hts in_X5 hown hK hP 6 rfl rfl 3 (by decide) (hts _ q_236) (fun _ h9 => h9) rfl dX5_become_32 ?_
  refine lv_iconst (v := 0) hx hb dX5_become_35 (by decide) ?_
  refine lv_aload_n hx hb dX5_become_36 rfl (lv_at hl 0 rfl) ?_
  refine va_get (D := D) (ci := 5) (v := .ref smb) (C := RX5) (T := TX5) (N := 7) hx hb hts in_X5 hown hK hP 0 rfl rfl 3 (by decide) (hts _ q_236) (fun _ h9 => h9) rfl dX5_become_37 ?_
  refine lv_iconst (v := 0) hx hb dX5_become_40 (by decide) ?_
  refine lv_bipush (v := 120) hx hb dX5_become_41 (by decide) ?_
  refine sm_copyi (N' := 120) hx hb (by rw [hml]; exact hl.1.symm) hown (hts _ q_1000) (hts _ q_611) (hts _ q_610) (hts _ q_77) hK hP 8 2 rfl rfl (by decide) (by decide) (by decide) (Nat.le_of_ble_eq_true rfl) (Nat.le_of_ble_eq_true rfl) (hLF 2 rfl) (Nat.le_of_ble_eq_true rfl) (Nat.le_of_ble_eq_true rfl) dX5_become_43 hLc (fun locs hLc => ?_)
  refine lv_aload_n hx hb dX5_become_46 rfl (lv_at hl 1 rfl) ?_
  refine va_get (D := D) (ci := 5) (v := .ref nmc) (C := RX5) (T := TX5) (N := 7) hx hb hts in_X5 hown hK hP 6 rfl rfl 4 (by decide) (hts _ q_238) (fun _ h9 => h9) rfl dX5_become_47 ?_
  refine lv_iconst (v := 0) hx hb dX5_become_50 (by decide) ?_
  refine lv_aload_n hx hb dX5_become_51 rfl (lv_at hl 0 rfl) ?_
  refine va_get (D := D) (ci := 5) (v := .ref smc) (C := RX5) (T := TX5) (N := 7) hx hb hts in_X5 hown hK hP 0 rfl rfl 4 (by decide) (hts _ q_238) (fun _ h9 => h9) rfl dX5_become_52 ?_
  refine lv_iconst (v := 0) hx hb dX5_become_55 (by decide) ?_
  refine lv_bipush (v := 120) hx hb dX5_become_56 (by decide) ?_
  refine sm_copyi (N' := 120) hx hb (by rw [hml]; exact hl.1.symm) hown (hts _ q_1000) (hts _ q_611) (hts _ q_610) (hts _ q_77) hK hP 9 3 rfl rfl (by decide) (by decide) (by decide) (Nat.le_of_ble_eq_true rfl) (Nat.le_of_ble_eq_true rfl) (hLF 3 rfl) (Nat.le_of_ble_eq_true rfl) (Nat.le_of_ble_eq_true rfl) dX5_become_58 hLc (fun locs hLc => ?_)
  refine lv_aload_n hx hb dX5_become_61 rfl (lv_at hl 1 rfl) ?_
  refine va_get (D := D) (ci := 5) (v := .ref nmd) (C := RX5) (T := TX5) (N := 7) hx hb hts in_X5 hown hK hP 6 rfl rfl 5 (by decide) (hts _ q_240) (fun _ h9 => h9) rfl dX5_become_62 ?_
  refine lv_iconst (v := 0) hx hb dX5_become_65 (by decide) ?_
  refine lv_aload_n hx hb dX5_become_66 rfl (lv_at hl 0 rfl) ?_
  refine va_get (D := D) (ci := 5) (v := .ref smd) (C := RX5) (T := TX5) (N := 7) hx hb hts in_X5 hown hK hP 0 rfl rfl 5 (by decide) (hts _ q_240) (fun _ h9 => h9) rfl dX5_become_67 ?_
  refine lv_iconst (v := 0) hx hb dX5_become_70 (by decide) ?_
  refine lv_bipush (v := 120) hx hb dX5_become_71 (by decide) ?_
  refine sm_copyi (N' := 120) hx hb (by rw [hml]; exact hl.1.symm) hown (hts _ q_1000) (hts _ q_611) (hts _ q_610) (hts _ q_77) hK hP 10 4 rfl rfl (by decide) (by decide) (by decide) (Nat.le_of_ble_eq_true rfl) (Nat.le_of_ble_eq_true rfl) (hLF 4 rfl) (Nat.le_of_ble_eq_true rfl) (Nat.le_of_ble_eq_true rfl) dX5_become_73 hLc (fun locs hLc => ?_)
  refine lv_iconst (v := 0) hx hb dX5_become_76 (by decide) ?_
  refine lv_istore_n (lv' := [(2, .int 0), (0, .ref smi), (1, .ref nmi)]) hx hb dX5_become_77 rfl hl (by decide) rfl (fun ls hl => ?_)
  refine minutes_loop hx hb hown hts hK hLF hP (fun locs ls hLc hl => ?_) 120 0 rfl locs ls hLc hl
  exact W.vret hx hb hr (fun t ht hW => ⟨rfl, by rw [ht]; exact hG⟩) hLc dX5_become_102
theorem dX2_become_18 : decode cX2_become 18 = .ok (.iload_n 2, 1) := by decide +kernel
theorem dX2_become_19 : decode cX2_become 19 = .ok (.bipush 20, 2) := by decide +kernel
theorem dX2_become_21 : decode cX2_become 21 = .ok (.if_icmp .ge 36, 3) := by decide +kernel
theorem dX2_become_24 : decode cX2_become 24 = .ok (.aload_n 0, 1) := by decide +kernel
theorem dX2_become_25 : decode cX2_become 25 = .ok (.getfield 11, 3) := by decide +kernel
theorem dX2_become_28 : decode cX2_become 28 = .ok (.iload_n 2, 1) := by decide +kernel
theorem dX2_become_29 : decode cX2_become 29 = .ok (.aaload, 1) := by decide +kernel
theorem dX2_become_30 : decode cX2_become 30 = .ok (.aload_n 1, 1) := by decide +kernel
theorem dX2_become_31 : decode cX2_become 31 = .ok (.getfield 11, 3) := by decide +kernel
theorem dX2_become_34 : decode cX2_become 34 = .ok (.iload_n 2, 1) := by decide +kernel
theorem dX2_become_35 : decode cX2_become 35 = .ok (.aaload, 1) := by decide +kernel
theorem dX2_become_36 : decode cX2_become 36 = .ok (.invokevirtual 29, 3) := by decide +kernel
theorem dX2_become_39 : decode cX2_become 39 = .ok (.aload_n 0, 1) := by decide +kernel
theorem dX2_become_40 : decode cX2_become 40 = .ok (.getfield 17, 3) := by decide +kernel
theorem dX2_become_43 : decode cX2_become 43 = .ok (.iload_n 2, 1) := by decide +kernel
theorem dX2_become_44 : decode cX2_become 44 = .ok (.aload_n 1, 1) := by decide +kernel
theorem dX2_become_45 : decode cX2_become 45 = .ok (.getfield 17, 3) := by decide +kernel
theorem dX2_become_48 : decode cX2_become 48 = .ok (.iload_n 2, 1) := by decide +kernel
theorem dX2_become_49 : decode cX2_become 49 = .ok (.iaload, 1) := by decide +kernel
theorem dX2_become_50 : decode cX2_become 50 = .ok (.iastore, 1) := by decide +kernel
theorem dX2_become_51 : decode cX2_become 51 = .ok (.iinc 2 1, 3) := by decide +kernel
theorem dX2_become_54 : decode cX2_become 54 = .ok (.goto (-36), 3) := by decide +kernel
set_option maxRecDepth 100000 in
theorem q_990 : (.code yX7_become cX7_become 2 none) ∈ lw_all := List.mem_filter.mpr ⟨List.mem_of_getElem? (i := 990) (rfl), by decide +kernel⟩
set_option maxRecDepth 100000 in
theorem q_988 : (.instanceMethod yX7_become) ∈ lw_all := List.mem_filter.mpr ⟨List.mem_of_getElem? (i := 988) (by decide +kernel), by decide +kernel⟩
set_option maxRecDepth 100000 in
theorem q_987 : (.methodLink RX2 29 yX7_become) ∈ lw_all := List.mem_filter.mpr ⟨List.mem_of_getElem? (i := 987) (by decide +kernel), by decide +kernel⟩
set_option maxRecDepth 100000 in
theorem q_989 : (.selects RX7 yX7_become yX7_become) ∈ lw_all := List.mem_filter.mpr ⟨List.mem_of_getElem? (i := 989) (by decide +kernel), by decide +kernel⟩
section DBLOOP
variable {p : Program} {l : Launch} {e : Env} {R : Room} {s : State} {m : MethodId} {args : Array Value} {below : List Frame} {meth : Method} {c : Code} {cells slots : Nat} {Q : State → Prop}
variable {D : va_G} {F : Nat → Prop} {cI cQ cM cR : ClassId} {sdk ndk sdq sdr ndq ndr : Nat} {sQ nQ : Nat → QB}
set_option maxHeartbeats 4000000 in
set_option maxRecDepth 100000 in
theorem docketb_loop (hx : p.tables.exec = Jvm.exec) (hb : c.code = cX2_become) (hml : c.maxLocals = 3) (hown : s.vm.findClass RX2 = some m.cls) (hts : ∀ w ∈ lw_all, w.before args s = true) (hK : va_K D vwCl (TY cI cQ cM cR) s) (hLF : ∀ (k : Nat) {q : Nat × va_E}, (([(sdk, .inr (2, [.int 0, .int 0, .ref sdq, .ref sdr])), (sdq, .inl (cQ, 20, .inr (.inr (.inr (.inr (qf sQ 20)))))), (sdr, .inl (cI, 20, .inl (fun _ => 0))), (ndk, .inr (2, [.int 0, .int 0, .ref ndq, .ref ndr])), (ndq, .inl (cQ, 20, .inr (.inr (.inr (.inr (qf nQ 20)))))), (ndr, .inl (cI, 20, .inl (fun _ => 0)))] ++ ((qsW cI sQ 20) ++ (qsW cI nQ 20))) : va_W)[k]? = some q → F q.1) (hRf : 2 + 1 ≤ R.frames) (hRl : 8 + (2 + 11) + 61 ≤ R.locals) (hRc : cells + 0 ≤ R.cells) (hRs : slots + 0 ≤ R.slots)
    (kk : ∀ (H : Heap) (locs : List Loc) (ls : Array Slot), va_P D vwCl ([(sdk, .inr (2, [.int 0, .int 0, .ref sdq, .ref sdr])), (sdq, .inl (cQ, 20, .inr (.inr (.inr (.inr (qf sQ 20)))))), (sdr, .inl (cI, 20, .inl (fun _ => 0))), (ndk, .inr (2, [.int 0, .int 0, .ref ndq, .ref ndr])), (ndq, .inl (cQ, 20, .inr (.inr (.inr (.inr (qf nQ 20)))))), (ndr, .inl (cI, 20, .inl (fun _ => 0)))] ++ ((qsW cI sQ 20) ++ (qsW cI nQ 20))) H → sm s.heap H → (∀ q ∈ locs, F q.base) → lv_has ls 3 [(2, .int (nI 20)), (0, .ref sdk), (1, .ref ndk)] → W p l e R s m args below meth c H locs cells slots Q (F0 m 57 ls [])) :
    ∀ (n i : Nat), i + n = 20 → ∀ (H : Heap) (locs : List Loc) (ls : Array Slot), va_P D vwCl ([(sdk, .inr (2, [.int 0, .int 0, .ref sdq, .ref sdr])), (sdq, .inl (cQ, 20, .inr (.inr (.inr (.inr (qf sQ 20)))))), (sdr, .inl (cI, 20, .inl (fun _ => 0))), (ndk, .inr (2, [.int 0, .int 0, .ref ndq, .ref ndr])), (ndq, .inl (cQ, 20, .inr (.inr (.inr (.inr (qf nQ 20)))))), (ndr, .inl (cI, 20, .inl (fun _ => 0)))] ++ ((qsW cI sQ 20) ++ (qsW cI nQ 20))) H → sm s.heap H → (∀ q ∈ locs, F q.base) → lv_has ls 3 [(2, .int (nI i)), (0, .ref sdk), (1, .ref ndk)] → W p l e R s m args below meth c H locs cells slots Q (F0 m 18 ls []) := by
  intro n
  induction n with
  | zero =>
    intro i hin H locs ls hP hG hLc hl
    obtain rfl : i = 20 := by omega
    refine lv_iload_n hx hb dX2_become_18 rfl (lv_at hl 0 rfl) ?_
    refine lv_bipush (v := 20) hx hb dX2_become_19 (by decide) ?_
    refine lv_icmp_ge (tgt := 57) hx hb dX2_become_21 (by decide) (fun _ => ?_) (fun c9 => absurd (by decide) c9)
    exact kk H locs ls hP hG hLc hl
  | succ n ih =>
    intro i hin H locs ls hP hG hLc hl
    have hi : i < 20 := by omega
    refine lv_iload_n hx hb dX2_become_18 rfl (lv_at hl 0 rfl) ?_
    refine lv_bipush (v := 20) hx hb dX2_become_19 (by decide) ?_
    refine lv_icmp_ge (tgt := 57) hx hb dX2_become_21 (by decide) (fun c9 => absurd c9 (show ¬ (20 : Int32) ≤ nI i from nI_ge hi (by decide))) (fun _ => ?_)
    refine lv_aload_n hx hb dX2_become_24 rfl (lv_at hl 1 rfl) ?_
    refine va_get (D := D) (ci := 2) (v := .ref sdq) (C := RX2) (T := TX2) (N := 4) hx hb hts in_X2 hown hK hP 0 rfl rfl 2 (by decide) (hts _ q_191) (fun _ h9 => h9) rfl dX2_become_25 ?_
    refine lv_iload_n hx hb dX2_become_28 rfl (lv_at hl 0 rfl) ?_
    refine va_aldq hx hb hK hP 1 1 rfl rfl (i := nI i) (vp_in_nI hi (by decide)) dX2_become_29 ?_
    refine lv_vst (v := .ref (sQ i).1) (by rw [nI_clamp (by omega)]; unfold qf; rw [if_pos hi]; rfl) ?_
    refine lv_aload_n hx hb dX2_become_30 rfl (lv_at hl 2 rfl) ?_
    refine va_get (D := D) (ci := 2) (v := .ref ndq) (C := RX2) (T := TX2) (N := 4) hx hb hts in_X2 hown hK hP 3 rfl rfl 2 (by decide) (hts _ q_191) (fun _ h9 => h9) rfl dX2_become_31 ?_
    refine lv_iload_n hx hb dX2_become_34 rfl (lv_at hl 0 rfl) ?_
    refine va_aldq hx hb hK hP 4 1 rfl rfl (i := nI i) (vp_in_nI hi (by decide)) dX2_become_35 ?_
    refine lv_vst (v := .ref (nQ i).1) (by rw [nI_clamp (by omega)]; unfold qf; rw [if_pos hi]; rfl) ?_
    have hm : ∀ q ∈ qb cI (sQ i) ++ qb cI (nQ i), q ∈ ([(sdk, .inr (2, [.int 0, .int 0, .ref sdq, .ref sdr])), (sdq, .inl (cQ, 20, .inr (.inr (.inr (.inr (qf sQ 20)))))), (sdr, .inl (cI, 20, .inl (fun _ => 0))), (ndk, .inr (2, [.int 0, .int 0, .ref ndq, .ref ndr])), (ndq, .inl (cQ, 20, .inr (.inr (.inr (.inr (qf nQ 20)))))), (ndr, .inl (cI, 20, .inl (fun _ => 0)))] ++ ((qsW cI sQ 20) ++ (qsW cI nQ 20))) := fun q hq => (List.mem_append.mp hq).elim (fun h => List.mem_append_right _ (List.mem_append_left _ (qsW_mem hi q h))) (fun h => List.mem_append_right _ (List.mem_append_right _ (qsW_mem hi q h)))
    have hPq := mem_P hP hm
    refine i_call (va_runV (As := [.ref (nQ i).1]) (rest := []) ⟨hx, hb, hml, hown, hts⟩ (c_X7_become l D cI cQ cM cR F (sQ i).1 (nQ i).1 (sQ i).2.1 (sQ i).2.2.2.1 (sQ i).2.2.1 (sQ i).2.2.2.2 (nQ i).2.1 (nQ i).2.2.2.1 (nQ i).2.2.1 (nQ i).2.2.2.2 (mem_F hLF hm)) (cwV 1 hts (gV q_987 q_988 q_989 q_69 q_990) rfl rfl rfl (by decide +kernel) ⟨hRf, hRl⟩) ⟨PP_blind, va_recv hK hPq (ci := 7) (q0 := 0) rfl rfl, PP_of hK hPq⟩ rfl rfl hl.1 rfl (lv_room (Nat.le_of_ble_eq_true rfl)) dX2_become_36 ⟨hRc, hRs⟩) hG hLc (fun H hGG hkk locs hG hLc => ?_)
    have hP := hP.kept (fun k q hk => hkk q.1 (hP k q hk).lt)
    refine lv_aload_n hx hb dX2_become_39 rfl (lv_at hl 1 rfl) ?_
    refine va_get (D := D) (ci := 2) (v := .ref sdr) (C := RX2) (T := TX2) (N := 4) hx hb hts in_X2 hown hK hP 0 rfl rfl 3 (by decide) (hts _ q_192) (fun _ h9 => h9) rfl dX2_become_40 ?_
    refine lv_iload_n hx hb dX2_become_43 rfl (lv_at hl 0 rfl) ?_
    refine lv_aload_n hx hb dX2_become_44 rfl (lv_at hl 2 rfl) ?_
    refine va_get (D := D) (ci := 2) (v := .ref ndr) (C := RX2) (T := TX2) (N := 4) hx hb hts in_X2 hown hK hP 3 rfl rfl 3 (by decide) (hts _ q_192) (fun _ h9 => h9) rfl dX2_become_45 ?_
    refine lv_iload_n hx hb dX2_become_48 rfl (lv_at hl 0 rfl) ?_
    refine va_iald hx hb hK hP 5 0 rfl rfl (i := nI i) (vp_in_nI hi (by decide)) dX2_become_49 ?_
    refine sm_iast hx hb hK hP 2 rfl (i := nI i) (vp_in_nI hi (by decide)) (hLF 2 rfl) dX2_become_50 hLc (fun locs hLc => ?_)
    refine lv_iinc (v := nI (i + 1)) (lv' := [(2, .int (nI (i + 1))), (0, .ref sdk), (1, .ref ndk)]) hx hb dX2_become_51 hl (k := 0) rfl (nI_1 i) (by decide) rfl (fun ls hl => ?_)
    refine lv_goto (tgt := 18) hx hb dX2_become_54 (by decide) ?_
    exact ih (i + 1) (by omega) H locs ls hP hG hLc hl
end DBLOOP
theorem dX2_become_0 : decode cX2_become 0 = .ok (.aload_n 0, 1) := by decide +kernel
theorem dX2_become_1 : decode cX2_become 1 = .ok (.aload_n 1, 1) := by decide +kernel
theorem dX2_become_2 : decode cX2_become 2 = .ok (.getfield 22, 3) := by decide +kernel
theorem dX2_become_5 : decode cX2_become 5 = .ok (.putfield 22, 3) := by decide +kernel
theorem dX2_become_8 : decode cX2_become 8 = .ok (.aload_n 0, 1) := by decide +kernel
theorem dX2_become_9 : decode cX2_become 9 = .ok (.aload_n 1, 1) := by decide +kernel
theorem dX2_become_10 : decode cX2_become 10 = .ok (.getfield 26, 3) := by decide +kernel
theorem dX2_become_13 : decode cX2_become 13 = .ok (.putfield 26, 3) := by decide +kernel
theorem dX2_become_16 : decode cX2_become 16 = .ok (.iconst 0, 1) := by decide +kernel
theorem dX2_become_17 : decode cX2_become 17 = .ok (.istore_n 2, 1) := by decide +kernel
theorem dX2_become_57 : decode cX2_become 57 = .ok (.return_, 1) := by decide +kernel
set_option maxHeartbeats 4000000 in
set_option maxRecDepth 100000 in
theorem c_X2_become (l : Launch) (D : va_G) (cI cQ cM cR : ClassId) (F : Nat → Prop) (sdk : Nat) (ndk : Nat) (sdq : Nat) (sdr : Nat) (ndq : Nat) (ndr : Nat) (sQ : Nat → QB) (nQ : Nat → QB) (hLF : ∀ (k : Nat) {q : Nat × va_E}, (([(sdk, .inr (2, [.int 0, .int 0, .ref sdq, .ref sdr])), (sdq, .inl (cQ, 20, .inr (.inr (.inr (.inr (qf sQ 20)))))), (sdr, .inl (cI, 20, .inl (fun _ => 0))), (ndk, .inr (2, [.int 0, .int 0, .ref ndq, .ref ndr])), (ndq, .inl (cQ, 20, .inr (.inr (.inr (.inr (qf nQ 20)))))), (ndr, .inl (cI, 20, .inl (fun _ => 0)))] ++ ((qsW cI sQ 20) ++ (qsW cI nQ 20))) : va_W)[k]? = some q → F q.1) : Met l yX2_become (ws_ yX2_become cX2_become 3 none) ({ frames := 3, cells := 0, slots := 0, locals := 82 }) (PP D cI cQ cM cR [.ref sdk, .ref ndk] ([(sdk, .inr (2, [.int 0, .int 0, .ref sdq, .ref sdr])), (sdq, .inl (cQ, 20, .inr (.inr (.inr (.inr (qf sQ 20)))))), (sdr, .inl (cI, 20, .inl (fun _ => 0))), (ndk, .inr (2, [.int 0, .int 0, .ref ndq, .ref ndr])), (ndq, .inl (cQ, 20, .inr (.inr (.inr (.inr (qf nQ 20)))))), (ndr, .inl (cI, 20, .inl (fun _ => 0)))] ++ ((qsW cI sQ 20) ++ (qsW cI nQ 20)))) QI 0 0 F := by
  refine Met.ofW (cc := cX2_become) (maxL := 3) (ret := none) (by decide) rfl ?_
  intro p e s m args below meth c s₁ B hml hv
  obtain ⟨rfl, hP, hK⟩ := hv
  have hx := B.exec
  have hb := B.bytes
  have hr := B.returns
  have hts : ∀ w ∈ lw_all, w.before _ s = true := fun w h => atoms_spec (ws := (ws_ yX2_become cX2_become 3 none)) B.pre w (List.mem_cons_of_mem _ h)
  have hown : s.vm.findClass RX2 = some m.cls := findClass_of_methodNamed B.named
  have hlocks := B.notSynchronized
  have hG : sm s.heap s.heap := sm.rf
  have hLc : ∀ q ∈ ([] : List Loc), F q.base := fun q h => absurd h List.not_mem_nil
  have hP : va_P D vwCl ([(sdk, .inr (2, [.int 0, .int 0, .ref sdq, .ref sdr])), (sdq, .inl (cQ, 20, .inr (.inr (.inr (.inr (qf sQ 20)))))), (sdr, .inl (cI, 20, .inl (fun _ => 0))), (ndk, .inr (2, [.int 0, .int 0, .ref ndq, .ref ndr])), (ndq, .inl (cQ, 20, .inr (.inr (.inr (.inr (qf nQ 20)))))), (ndr, .inl (cI, 20, .inl (fun _ => 0)))] ++ ((qsW cI sQ 20) ++ (qsW cI nQ 20))) s.heap := hP
  have hl := lv_entry ([.ref sdk, .ref ndk]) (n := 3) (Nat.le_of_ble_eq_true rfl)
  rw [lg_entry_eq]
  generalize (lg_sl ([.ref sdk, .ref ndk]) ++ List.replicate (3 - (lg_sl ([.ref sdk, .ref ndk])).length) Slot.unset).toArray = ls at hl ⊢
  have hl : lv_has ls 3 [(0, .ref sdk), (1, .ref ndk)] := hl
  obtain ⟨H, hH⟩ : ∃ H : Heap, H = s.heap := ⟨_, rfl⟩
  rw [← hH] at hP
  have hG : sm s.heap H := by rw [hH]; exact hG
  rw [← hH]
  refine lv_aload_n hx hb dX2_become_0 rfl (lv_at hl 0 rfl) ?_
  refine lv_aload_n hx hb dX2_become_1 rfl (lv_at hl 1 rfl) ?_
  refine va_get (D := D) (ci := 2) (v := .int 0) (C := RX2) (T := TX2) (N := 4) hx hb hts in_X2 hown hK hP 3 rfl rfl 0 (by decide) (hts _ q_186) (fun _ h9 => h9) rfl dX2_become_2 ?_
  refine sm_put (D := D) (ci := 2) (v := .int 0) (ty := .int) (C := RX2) (T := TX2) (N := 4) hx hb hts in_X2 hown hK hP 0 rfl rfl 0 (by decide) (hts _ q_186) (fun _ h9 => h9) rfl (by decide +kernel) rfl rfl rfl (hLF 0 rfl) dX2_become_5 hLc (fun locs hLc => ?_)
  refine lv_aload_n hx hb dX2_become_8 rfl (lv_at hl 0 rfl) ?_
  refine lv_aload_n hx hb dX2_become_9 rfl (lv_at hl 1 rfl) ?_
  refine va_get (D := D) (ci := 2) (v := .int 0) (C := RX2) (T := TX2) (N := 4) hx hb hts in_X2 hown hK hP 3 rfl rfl 1 (by decide) (hts _ q_189) (fun _ h9 => h9) rfl dX2_become_10 ?_
  refine sm_put (D := D) (ci := 2) (v := .int 0) (ty := .int) (C := RX2) (T := TX2) (N := 4) hx hb hts in_X2 hown hK hP 0 rfl rfl 1 (by decide) (hts _ q_189) (fun _ h9 => h9) rfl (by decide +kernel) rfl rfl rfl (hLF 0 rfl) dX2_become_13 hLc (fun locs hLc => ?_)
  refine lv_iconst (v := 0) hx hb dX2_become_16 (by decide) ?_
  refine lv_istore_n (lv' := [(2, .int 0), (0, .ref sdk), (1, .ref ndk)]) hx hb dX2_become_17 rfl hl (by decide) rfl (fun ls hl => ?_)
  refine docketb_loop hx hb hml hown hts hK hLF (Nat.le_of_ble_eq_true rfl) (Nat.le_of_ble_eq_true rfl) (Nat.le_of_ble_eq_true rfl) (Nat.le_of_ble_eq_true rfl) (fun H locs ls hP hG hLc hl => ?_) 20 0 rfl H locs ls hP hG hLc hl
  exact W.vret hx hb hr (fun t ht hW => ⟨rfl, by rw [ht]; exact hG⟩) hLc dX2_become_57
theorem dX4_become_0 : decode cX4_become 0 = .ok (.aload_n 0, 1) := by decide +kernel
theorem dX4_become_1 : decode cX4_become 1 = .ok (.getfield 12, 3) := by decide +kernel
theorem dX4_become_4 : decode cX4_become 4 = .ok (.aload_n 1, 1) := by decide +kernel
theorem dX4_become_5 : decode cX4_become 5 = .ok (.getfield 12, 3) := by decide +kernel
theorem dX4_become_8 : decode cX4_become 8 = .ok (.invokevirtual 64, 3) := by decide +kernel
theorem dX4_become_11 : decode cX4_become 11 = .ok (.aload_n 0, 1) := by decide +kernel
theorem dX4_become_12 : decode cX4_become 12 = .ok (.getfield 21, 3) := by decide +kernel
theorem dX4_become_15 : decode cX4_become 15 = .ok (.aload_n 1, 1) := by decide +kernel
theorem dX4_become_16 : decode cX4_become 16 = .ok (.getfield 21, 3) := by decide +kernel
theorem dX4_become_19 : decode cX4_become 19 = .ok (.invokevirtual 68, 3) := by decide +kernel
theorem dX4_become_22 : decode cX4_become 22 = .ok (.aload_n 0, 1) := by decide +kernel
theorem dX4_become_23 : decode cX4_become 23 = .ok (.getfield 28, 3) := by decide +kernel
theorem dX4_become_26 : decode cX4_become 26 = .ok (.aload_n 1, 1) := by decide +kernel
theorem dX4_become_27 : decode cX4_become 27 = .ok (.getfield 28, 3) := by decide +kernel
theorem dX4_become_30 : decode cX4_become 30 = .ok (.invokevirtual 71, 3) := by decide +kernel
theorem dX4_become_33 : decode cX4_become 33 = .ok (.aload_n 0, 1) := by decide +kernel
theorem dX4_become_34 : decode cX4_become 34 = .ok (.getfield 35, 3) := by decide +kernel
theorem dX4_become_37 : decode cX4_become 37 = .ok (.aload_n 1, 1) := by decide +kernel
theorem dX4_become_38 : decode cX4_become 38 = .ok (.getfield 35, 3) := by decide +kernel
theorem dX4_become_41 : decode cX4_become 41 = .ok (.invokevirtual 74, 3) := by decide +kernel
theorem dX4_become_44 : decode cX4_become 44 = .ok (.aload_n 0, 1) := by decide +kernel
theorem dX4_become_45 : decode cX4_become 45 = .ok (.getfield 42, 3) := by decide +kernel
theorem dX4_become_48 : decode cX4_become 48 = .ok (.aload_n 1, 1) := by decide +kernel
theorem dX4_become_49 : decode cX4_become 49 = .ok (.getfield 42, 3) := by decide +kernel
theorem dX4_become_52 : decode cX4_become 52 = .ok (.invokevirtual 77, 3) := by decide +kernel
theorem dX4_become_55 : decode cX4_become 55 = .ok (.aload_n 0, 1) := by decide +kernel
theorem dX4_become_56 : decode cX4_become 56 = .ok (.getfield 49, 3) := by decide +kernel
theorem dX4_become_59 : decode cX4_become 59 = .ok (.aload_n 1, 1) := by decide +kernel
theorem dX4_become_60 : decode cX4_become 60 = .ok (.getfield 49, 3) := by decide +kernel
theorem dX4_become_63 : decode cX4_become 63 = .ok (.invokevirtual 80, 3) := by decide +kernel
theorem dX4_become_66 : decode cX4_become 66 = .ok (.aload_n 0, 1) := by decide +kernel
theorem dX4_become_67 : decode cX4_become 67 = .ok (.getfield 56, 3) := by decide +kernel
theorem dX4_become_70 : decode cX4_become 70 = .ok (.aload_n 1, 1) := by decide +kernel
theorem dX4_become_71 : decode cX4_become 71 = .ok (.getfield 56, 3) := by decide +kernel
theorem dX4_become_74 : decode cX4_become 74 = .ok (.invokevirtual 83, 3) := by decide +kernel
theorem dX4_become_77 : decode cX4_become 77 = .ok (.aload_n 0, 1) := by decide +kernel
theorem dX4_become_78 : decode cX4_become 78 = .ok (.aload_n 1, 1) := by decide +kernel
theorem dX4_become_79 : decode cX4_become 79 = .ok (.getfield 60, 3) := by decide +kernel
theorem dX4_become_82 : decode cX4_become 82 = .ok (.putfield 60, 3) := by decide +kernel
theorem dX4_become_85 : decode cX4_become 85 = .ok (.aload_n 0, 1) := by decide +kernel
theorem dX4_become_86 : decode cX4_become 86 = .ok (.aload_n 1, 1) := by decide +kernel
theorem dX4_become_87 : decode cX4_become 87 = .ok (.getfield 86, 3) := by decide +kernel
theorem dX4_become_90 : decode cX4_become 90 = .ok (.putfield 86, 3) := by decide +kernel
theorem dX4_become_93 : decode cX4_become 93 = .ok (.aload_n 0, 1) := by decide +kernel
theorem dX4_become_94 : decode cX4_become 94 = .ok (.aload_n 1, 1) := by decide +kernel
theorem dX4_become_95 : decode cX4_become 95 = .ok (.getfield 90, 3) := by decide +kernel
theorem dX4_become_98 : decode cX4_become 98 = .ok (.putfield 90, 3) := by decide +kernel
theorem dX4_become_101 : decode cX4_become 101 = .ok (.aload_n 0, 1) := by decide +kernel
theorem dX4_become_102 : decode cX4_become 102 = .ok (.aload_n 1, 1) := by decide +kernel
theorem dX4_become_103 : decode cX4_become 103 = .ok (.getfield 94, 3) := by decide +kernel
theorem dX4_become_106 : decode cX4_become 106 = .ok (.putfield 94, 3) := by decide +kernel
theorem dX4_become_109 : decode cX4_become 109 = .ok (.aload_n 0, 1) := by decide +kernel
theorem dX4_become_110 : decode cX4_become 110 = .ok (.aload_n 1, 1) := by decide +kernel
theorem dX4_become_111 : decode cX4_become 111 = .ok (.getfield 97, 3) := by decide +kernel
theorem dX4_become_114 : decode cX4_become 114 = .ok (.putfield 97, 3) := by decide +kernel
theorem dX4_become_117 : decode cX4_become 117 = .ok (.aload_n 0, 1) := by decide +kernel
theorem dX4_become_118 : decode cX4_become 118 = .ok (.aload_n 1, 1) := by decide +kernel
theorem dX4_become_119 : decode cX4_become 119 = .ok (.getfield 100, 3) := by decide +kernel
theorem dX4_become_122 : decode cX4_become 122 = .ok (.putfield 100, 3) := by decide +kernel
theorem dX4_become_125 : decode cX4_become 125 = .ok (.return_, 1) := by decide +kernel
set_option maxRecDepth 100000 in
theorem q_1004 : (.code yX0_become cX0_become 2 none) ∈ lw_all := List.mem_filter.mpr ⟨List.mem_of_getElem? (i := 1004) (rfl), by decide +kernel⟩
set_option maxRecDepth 100000 in
theorem q_1009 : (.code yX1_become cX1_become 2 none) ∈ lw_all := List.mem_filter.mpr ⟨List.mem_of_getElem? (i := 1009) (rfl), by decide +kernel⟩
set_option maxRecDepth 100000 in
theorem q_986 : (.code yX2_become cX2_become 3 none) ∈ lw_all := List.mem_filter.mpr ⟨List.mem_of_getElem? (i := 986) (rfl), by decide +kernel⟩
set_option maxRecDepth 100000 in
theorem q_981 : (.code yX3_become cX3_become 2 none) ∈ lw_all := List.mem_filter.mpr ⟨List.mem_of_getElem? (i := 981) (rfl), by decide +kernel⟩
set_option maxRecDepth 100000 in
theorem q_999 : (.code yX5_become cX5_become 3 none) ∈ lw_all := List.mem_filter.mpr ⟨List.mem_of_getElem? (i := 999) (rfl), by decide +kernel⟩
set_option maxRecDepth 100000 in
theorem q_995 : (.code yX9_become cX9_become 3 none) ∈ lw_all := List.mem_filter.mpr ⟨List.mem_of_getElem? (i := 995) (rfl), by decide +kernel⟩
set_option maxRecDepth 100000 in
theorem q_361 : (.fieldLink RX4 100 "AssemblyChair$Meeting" "mainsNotMade" "I") ∈ lw_all := List.mem_filter.mpr ⟨List.mem_of_getElem? (i := 361) (by decide +kernel), by decide +kernel⟩
set_option maxRecDepth 100000 in
theorem q_353 : (.fieldLink RX4 86 "AssemblyChair$Meeting" "minute" "I") ∈ lw_all := List.mem_filter.mpr ⟨List.mem_of_getElem? (i := 353) (by decide +kernel), by decide +kernel⟩
set_option maxRecDepth 100000 in
theorem q_357 : (.fieldLink RX4 94 "AssemblyChair$Meeting" "motionsMade" "I") ∈ lw_all := List.mem_filter.mpr ⟨List.mem_of_getElem? (i := 357) (by decide +kernel), by decide +kernel⟩
set_option maxRecDepth 100000 in
theorem q_359 : (.fieldLink RX4 97 "AssemblyChair$Meeting" "mainsDropped" "I") ∈ lw_all := List.mem_filter.mpr ⟨List.mem_of_getElem? (i := 359) (by decide +kernel), by decide +kernel⟩
set_option maxRecDepth 100000 in
theorem q_1002 : (.instanceMethod yX0_become) ∈ lw_all := List.mem_filter.mpr ⟨List.mem_of_getElem? (i := 1002) (by decide +kernel), by decide +kernel⟩
set_option maxRecDepth 100000 in
theorem q_1007 : (.instanceMethod yX1_become) ∈ lw_all := List.mem_filter.mpr ⟨List.mem_of_getElem? (i := 1007) (by decide +kernel), by decide +kernel⟩
set_option maxRecDepth 100000 in
theorem q_984 : (.instanceMethod yX2_become) ∈ lw_all := List.mem_filter.mpr ⟨List.mem_of_getElem? (i := 984) (by decide +kernel), by decide +kernel⟩
set_option maxRecDepth 100000 in
theorem q_979 : (.instanceMethod yX3_become) ∈ lw_all := List.mem_filter.mpr ⟨List.mem_of_getElem? (i := 979) (by decide +kernel), by decide +kernel⟩
set_option maxRecDepth 100000 in
theorem q_997 : (.instanceMethod yX5_become) ∈ lw_all := List.mem_filter.mpr ⟨List.mem_of_getElem? (i := 997) (by decide +kernel), by decide +kernel⟩
set_option maxRecDepth 100000 in
theorem q_993 : (.instanceMethod yX9_become) ∈ lw_all := List.mem_filter.mpr ⟨List.mem_of_getElem? (i := 993) (by decide +kernel), by decide +kernel⟩
set_option maxRecDepth 100000 in
theorem q_978 : (.methodLink RX4 64 yX3_become) ∈ lw_all := List.mem_filter.mpr ⟨List.mem_of_getElem? (i := 978) (by decide +kernel), by decide +kernel⟩
set_option maxRecDepth 100000 in
theorem q_983 : (.methodLink RX4 68 yX2_become) ∈ lw_all := List.mem_filter.mpr ⟨List.mem_of_getElem? (i := 983) (by decide +kernel), by decide +kernel⟩
set_option maxRecDepth 100000 in
theorem q_992 : (.methodLink RX4 71 yX9_become) ∈ lw_all := List.mem_filter.mpr ⟨List.mem_of_getElem? (i := 992) (by decide +kernel), by decide +kernel⟩
set_option maxRecDepth 100000 in
theorem q_996 : (.methodLink RX4 74 yX5_become) ∈ lw_all := List.mem_filter.mpr ⟨List.mem_of_getElem? (i := 996) (by decide +kernel), by decide +kernel⟩
set_option maxRecDepth 100000 in
theorem q_1001 : (.methodLink RX4 77 yX0_become) ∈ lw_all := List.mem_filter.mpr ⟨List.mem_of_getElem? (i := 1001) (by decide +kernel), by decide +kernel⟩
set_option maxRecDepth 100000 in
theorem q_1006 : (.methodLink RX4 80 yX1_become) ∈ lw_all := List.mem_filter.mpr ⟨List.mem_of_getElem? (i := 1006) (by decide +kernel), by decide +kernel⟩
set_option maxRecDepth 100000 in
theorem q_605 : (.methodLink RX4 83 yX10_become) ∈ lw_all := List.mem_filter.mpr ⟨List.mem_of_getElem? (i := 605) (by decide +kernel), by decide +kernel⟩
set_option maxRecDepth 100000 in
theorem q_1003 : (.selects RX0 yX0_become yX0_become) ∈ lw_all := List.mem_filter.mpr ⟨List.mem_of_getElem? (i := 1003) (by decide +kernel), by decide +kernel⟩
set_option maxRecDepth 100000 in
theorem q_1008 : (.selects RX1 yX1_become yX1_become) ∈ lw_all := List.mem_filter.mpr ⟨List.mem_of_getElem? (i := 1008) (by decide +kernel), by decide +kernel⟩
set_option maxRecDepth 100000 in
theorem q_985 : (.selects RX2 yX2_become yX2_become) ∈ lw_all := List.mem_filter.mpr ⟨List.mem_of_getElem? (i := 985) (by decide +kernel), by decide +kernel⟩
set_option maxRecDepth 100000 in
theorem q_980 : (.selects RX3 yX3_become yX3_become) ∈ lw_all := List.mem_filter.mpr ⟨List.mem_of_getElem? (i := 980) (by decide +kernel), by decide +kernel⟩
set_option maxRecDepth 100000 in
theorem q_998 : (.selects RX5 yX5_become yX5_become) ∈ lw_all := List.mem_filter.mpr ⟨List.mem_of_getElem? (i := 998) (by decide +kernel), by decide +kernel⟩
set_option maxRecDepth 100000 in
theorem q_994 : (.selects RX9 yX9_become yX9_become) ∈ lw_all := List.mem_filter.mpr ⟨List.mem_of_getElem? (i := 994) (by decide +kernel), by decide +kernel⟩
set_option maxHeartbeats 4000000 in
set_option maxRecDepth 100000 in
theorem c_X4_become (l : Launch) (D : va_G) (cI cQ cM cR : ClassId) (F : Nat → Prop) (sme : Nat) (nme : Nat) (sho : Nat) (sdk : Nat) (ssh : Nat) (smi : Nat) (sba : Nat) (sde : Nat) (sbu : Nat) (shw : Nat) (shs : Nat) (sdq : Nat) (sdr : Nat) (sst : Nat) (sss : Nat) (ssp : Nat) (sma : Nat) (smb : Nat) (smc : Nat) (smd : Nat) (smm : Nat) (sby : Nat) (sbn : Nat) (sbc : Nat) (nho : Nat) (ndk : Nat) (nsh : Nat) (nmi : Nat) (nba : Nat) (nde : Nat) (nbu : Nat) (nhw : Nat) (nhs : Nat) (ndq : Nat) (ndr : Nat) (nst : Nat) (nss : Nat) (nsp : Nat) (nma : Nat) (nmb : Nat) (nmc : Nat) (nmd : Nat) (nmm : Nat) (nby : Nat) (nbn : Nat) (nbc : Nat) (sQ : Nat → QB) (nQ : Nat → QB) (hLF : ∀ (k : Nat) {q : Nat × va_E}, (([(sme, .inr (4, [.ref sho, .ref sdk, .ref ssh, .ref smi, .ref sba, .ref sde, .ref sbu, .int 1, .int 0, .null, .int 0, .int 0, .int 0])), (sho, .inr (3, [.int 0, .int 50, .int 0, .ref shw, .ref shs])), (shw, .inl (cI, 12, .inl (fun _ => 0))), (shs, .inl (cI, 12, .inl (fun _ => 0))), (sdk, .inr (2, [.int 0, .int 0, .ref sdq, .ref sdr])), (sdq, .inl (cQ, 20, .inr (.inr (.inr (.inr (qf sQ 20)))))), (sdr, .inl (cI, 20, .inl (fun _ => 0))), (ssh, .inr (9, [.int 0, .ref sst, .ref sss, .ref ssp])), (sst, .inl (cM, 160, .inr (.inr (.inr (.inr (fun _ => none)))))), (sss, .inl (cI, 160, .inl (fun _ => 0))), (ssp, .inl (cI, 160, .inl (fun _ => 0))), (smi, .inr (5, [.int 0, .int 0, .ref sma, .ref smb, .ref smc, .ref smd, .ref smm])), (sma, .inl (cI, 120, .inl (fun _ => 0))), (smb, .inl (cI, 120, .inl (fun _ => 0))), (smc, .inl (cI, 120, .inl (fun _ => 0))), (smd, .inl (cI, 120, .inl (fun _ => 0))), (smm, .inl (cM, 120, .inr (.inr (.inr (.inr (fun _ => none)))))), (sba, .inr (0, [.int 0, .int 0, .int 0, .ref sby, .ref sbn, .int 0, .int 0, .int 0, .int 0, .int 0, .int 99, .int 0, .int 0])), (sby, .inl (cI, 40, .inl (fun _ => 0))), (sbn, .inl (cI, 40, .inl (fun _ => 0))), (sde, .inr (1, [.int (-5), .int 0, .int 0])), (sbu, .inr (10, [.int 0, .ref sbc])), (sbc, .inl (cI, 8, .inl (fun _ => 0))), (nme, .inr (4, [.ref nho, .ref ndk, .ref nsh, .ref nmi, .ref nba, .ref nde, .ref nbu, .int 1, .int 0, .null, .int 0, .int 0, .int 0])), (nho, .inr (3, [.int 0, .int 50, .int 0, .ref nhw, .ref nhs])), (nhw, .inl (cI, 12, .inl (fun _ => 0))), (nhs, .inl (cI, 12, .inl (fun _ => 0))), (ndk, .inr (2, [.int 0, .int 0, .ref ndq, .ref ndr])), (ndq, .inl (cQ, 20, .inr (.inr (.inr (.inr (qf nQ 20)))))), (ndr, .inl (cI, 20, .inl (fun _ => 0))), (nsh, .inr (9, [.int 0, .ref nst, .ref nss, .ref nsp])), (nst, .inl (cM, 160, .inr (.inr (.inr (.inr (fun _ => none)))))), (nss, .inl (cI, 160, .inl (fun _ => 0))), (nsp, .inl (cI, 160, .inl (fun _ => 0))), (nmi, .inr (5, [.int 0, .int 0, .ref nma, .ref nmb, .ref nmc, .ref nmd, .ref nmm])), (nma, .inl (cI, 120, .inl (fun _ => 0))), (nmb, .inl (cI, 120, .inl (fun _ => 0))), (nmc, .inl (cI, 120, .inl (fun _ => 0))), (nmd, .inl (cI, 120, .inl (fun _ => 0))), (nmm, .inl (cM, 120, .inr (.inr (.inr (.inr (fun _ => none)))))), (nba, .inr (0, [.int 0, .int 0, .int 0, .ref nby, .ref nbn, .int 0, .int 0, .int 0, .int 0, .int 0, .int 99, .int 0, .int 0])), (nby, .inl (cI, 40, .inl (fun _ => 0))), (nbn, .inl (cI, 40, .inl (fun _ => 0))), (nde, .inr (1, [.int (-5), .int 0, .int 0])), (nbu, .inr (10, [.int 0, .ref nbc])), (nbc, .inl (cI, 8, .inl (fun _ => 0)))] ++ ((qsW cI sQ 20) ++ (qsW cI nQ 20))) : va_W)[k]? = some q → F q.1) : Met l yX4_become (ws_ yX4_become cX4_become 2 none) ({ frames := 4, cells := 0, slots := 0, locals := 104 }) (PP D cI cQ cM cR [.ref sme, .ref nme] ([(sme, .inr (4, [.ref sho, .ref sdk, .ref ssh, .ref smi, .ref sba, .ref sde, .ref sbu, .int 1, .int 0, .null, .int 0, .int 0, .int 0])), (sho, .inr (3, [.int 0, .int 50, .int 0, .ref shw, .ref shs])), (shw, .inl (cI, 12, .inl (fun _ => 0))), (shs, .inl (cI, 12, .inl (fun _ => 0))), (sdk, .inr (2, [.int 0, .int 0, .ref sdq, .ref sdr])), (sdq, .inl (cQ, 20, .inr (.inr (.inr (.inr (qf sQ 20)))))), (sdr, .inl (cI, 20, .inl (fun _ => 0))), (ssh, .inr (9, [.int 0, .ref sst, .ref sss, .ref ssp])), (sst, .inl (cM, 160, .inr (.inr (.inr (.inr (fun _ => none)))))), (sss, .inl (cI, 160, .inl (fun _ => 0))), (ssp, .inl (cI, 160, .inl (fun _ => 0))), (smi, .inr (5, [.int 0, .int 0, .ref sma, .ref smb, .ref smc, .ref smd, .ref smm])), (sma, .inl (cI, 120, .inl (fun _ => 0))), (smb, .inl (cI, 120, .inl (fun _ => 0))), (smc, .inl (cI, 120, .inl (fun _ => 0))), (smd, .inl (cI, 120, .inl (fun _ => 0))), (smm, .inl (cM, 120, .inr (.inr (.inr (.inr (fun _ => none)))))), (sba, .inr (0, [.int 0, .int 0, .int 0, .ref sby, .ref sbn, .int 0, .int 0, .int 0, .int 0, .int 0, .int 99, .int 0, .int 0])), (sby, .inl (cI, 40, .inl (fun _ => 0))), (sbn, .inl (cI, 40, .inl (fun _ => 0))), (sde, .inr (1, [.int (-5), .int 0, .int 0])), (sbu, .inr (10, [.int 0, .ref sbc])), (sbc, .inl (cI, 8, .inl (fun _ => 0))), (nme, .inr (4, [.ref nho, .ref ndk, .ref nsh, .ref nmi, .ref nba, .ref nde, .ref nbu, .int 1, .int 0, .null, .int 0, .int 0, .int 0])), (nho, .inr (3, [.int 0, .int 50, .int 0, .ref nhw, .ref nhs])), (nhw, .inl (cI, 12, .inl (fun _ => 0))), (nhs, .inl (cI, 12, .inl (fun _ => 0))), (ndk, .inr (2, [.int 0, .int 0, .ref ndq, .ref ndr])), (ndq, .inl (cQ, 20, .inr (.inr (.inr (.inr (qf nQ 20)))))), (ndr, .inl (cI, 20, .inl (fun _ => 0))), (nsh, .inr (9, [.int 0, .ref nst, .ref nss, .ref nsp])), (nst, .inl (cM, 160, .inr (.inr (.inr (.inr (fun _ => none)))))), (nss, .inl (cI, 160, .inl (fun _ => 0))), (nsp, .inl (cI, 160, .inl (fun _ => 0))), (nmi, .inr (5, [.int 0, .int 0, .ref nma, .ref nmb, .ref nmc, .ref nmd, .ref nmm])), (nma, .inl (cI, 120, .inl (fun _ => 0))), (nmb, .inl (cI, 120, .inl (fun _ => 0))), (nmc, .inl (cI, 120, .inl (fun _ => 0))), (nmd, .inl (cI, 120, .inl (fun _ => 0))), (nmm, .inl (cM, 120, .inr (.inr (.inr (.inr (fun _ => none)))))), (nba, .inr (0, [.int 0, .int 0, .int 0, .ref nby, .ref nbn, .int 0, .int 0, .int 0, .int 0, .int 0, .int 99, .int 0, .int 0])), (nby, .inl (cI, 40, .inl (fun _ => 0))), (nbn, .inl (cI, 40, .inl (fun _ => 0))), (nde, .inr (1, [.int (-5), .int 0, .int 0])), (nbu, .inr (10, [.int 0, .ref nbc])), (nbc, .inl (cI, 8, .inl (fun _ => 0)))] ++ ((qsW cI sQ 20) ++ (qsW cI nQ 20)))) QI 0 0 F := by
  refine Met.ofW (cc := cX4_become) (maxL := 2) (ret := none) (by decide) rfl ?_
  intro p e s m args below meth c s₁ B hml hv
  obtain ⟨rfl, hP, hK⟩ := hv
  have hx := B.exec
  have hb := B.bytes
  have hr := B.returns
  have hts : ∀ w ∈ lw_all, w.before _ s = true := fun w h => atoms_spec (ws := (ws_ yX4_become cX4_become 2 none)) B.pre w (List.mem_cons_of_mem _ h)
  have hown : s.vm.findClass RX4 = some m.cls := findClass_of_methodNamed B.named
  have hlocks := B.notSynchronized
  have hG : sm s.heap s.heap := sm.rf
  have hLc : ∀ q ∈ ([] : List Loc), F q.base := fun q h => absurd h List.not_mem_nil
  have hP : va_P D vwCl ([(sme, .inr (4, [.ref sho, .ref sdk, .ref ssh, .ref smi, .ref sba, .ref sde, .ref sbu, .int 1, .int 0, .null, .int 0, .int 0, .int 0])), (sho, .inr (3, [.int 0, .int 50, .int 0, .ref shw, .ref shs])), (shw, .inl (cI, 12, .inl (fun _ => 0))), (shs, .inl (cI, 12, .inl (fun _ => 0))), (sdk, .inr (2, [.int 0, .int 0, .ref sdq, .ref sdr])), (sdq, .inl (cQ, 20, .inr (.inr (.inr (.inr (qf sQ 20)))))), (sdr, .inl (cI, 20, .inl (fun _ => 0))), (ssh, .inr (9, [.int 0, .ref sst, .ref sss, .ref ssp])), (sst, .inl (cM, 160, .inr (.inr (.inr (.inr (fun _ => none)))))), (sss, .inl (cI, 160, .inl (fun _ => 0))), (ssp, .inl (cI, 160, .inl (fun _ => 0))), (smi, .inr (5, [.int 0, .int 0, .ref sma, .ref smb, .ref smc, .ref smd, .ref smm])), (sma, .inl (cI, 120, .inl (fun _ => 0))), (smb, .inl (cI, 120, .inl (fun _ => 0))), (smc, .inl (cI, 120, .inl (fun _ => 0))), (smd, .inl (cI, 120, .inl (fun _ => 0))), (smm, .inl (cM, 120, .inr (.inr (.inr (.inr (fun _ => none)))))), (sba, .inr (0, [.int 0, .int 0, .int 0, .ref sby, .ref sbn, .int 0, .int 0, .int 0, .int 0, .int 0, .int 99, .int 0, .int 0])), (sby, .inl (cI, 40, .inl (fun _ => 0))), (sbn, .inl (cI, 40, .inl (fun _ => 0))), (sde, .inr (1, [.int (-5), .int 0, .int 0])), (sbu, .inr (10, [.int 0, .ref sbc])), (sbc, .inl (cI, 8, .inl (fun _ => 0))), (nme, .inr (4, [.ref nho, .ref ndk, .ref nsh, .ref nmi, .ref nba, .ref nde, .ref nbu, .int 1, .int 0, .null, .int 0, .int 0, .int 0])), (nho, .inr (3, [.int 0, .int 50, .int 0, .ref nhw, .ref nhs])), (nhw, .inl (cI, 12, .inl (fun _ => 0))), (nhs, .inl (cI, 12, .inl (fun _ => 0))), (ndk, .inr (2, [.int 0, .int 0, .ref ndq, .ref ndr])), (ndq, .inl (cQ, 20, .inr (.inr (.inr (.inr (qf nQ 20)))))), (ndr, .inl (cI, 20, .inl (fun _ => 0))), (nsh, .inr (9, [.int 0, .ref nst, .ref nss, .ref nsp])), (nst, .inl (cM, 160, .inr (.inr (.inr (.inr (fun _ => none)))))), (nss, .inl (cI, 160, .inl (fun _ => 0))), (nsp, .inl (cI, 160, .inl (fun _ => 0))), (nmi, .inr (5, [.int 0, .int 0, .ref nma, .ref nmb, .ref nmc, .ref nmd, .ref nmm])), (nma, .inl (cI, 120, .inl (fun _ => 0))), (nmb, .inl (cI, 120, .inl (fun _ => 0))), (nmc, .inl (cI, 120, .inl (fun _ => 0))), (nmd, .inl (cI, 120, .inl (fun _ => 0))), (nmm, .inl (cM, 120, .inr (.inr (.inr (.inr (fun _ => none)))))), (nba, .inr (0, [.int 0, .int 0, .int 0, .ref nby, .ref nbn, .int 0, .int 0, .int 0, .int 0, .int 0, .int 99, .int 0, .int 0])), (nby, .inl (cI, 40, .inl (fun _ => 0))), (nbn, .inl (cI, 40, .inl (fun _ => 0))), (nde, .inr (1, [.int (-5), .int 0, .int 0])), (nbu, .inr (10, [.int 0, .ref nbc])), (nbc, .inl (cI, 8, .inl (fun _ => 0)))] ++ ((qsW cI sQ 20) ++ (qsW cI nQ 20))) s.heap := hP
  have hl := lv_entry ([.ref sme, .ref nme]) (n := 2) (Nat.le_of_ble_eq_true rfl)
  rw [lg_entry_eq]
  generalize (lg_sl ([.ref sme, .ref nme]) ++ List.replicate (2 - (lg_sl ([.ref sme, .ref nme])).length) Slot.unset).toArray = ls at hl ⊢
  have hl : lv_has ls 2 [(0, .ref sme), (1, .ref nme)] := hl
  obtain ⟨H, hH⟩ : ∃ H : Heap, H = s.heap := ⟨_, rfl⟩
  rw [← hH] at hP
  have hG : sm s.heap H := by rw [hH]; exact hG
  rw [← hH]
  refine lv_aload_n hx hb dX4_become_0 rfl (lv_at hl 0 rfl) ?_
  refine va_get (D := D) (ci := 4) (v := .ref sho) (C := RX4) (T := TX4) (N := 13) hx hb hts in_X4 hown hK hP 0 rfl rfl 0 (by decide) (hts _ q_337) (fun _ h9 => h9) rfl dX4_become_1 ?_
  refine lv_aload_n hx hb dX4_become_4 rfl (lv_at hl 1 rfl) ?_
  refine va_get (D := D) (ci := 4) (v := .ref nho) (C := RX4) (T := TX4) (N := 13) hx hb hts in_X4 hown hK hP 23 rfl rfl 0 (by decide) (hts _ q_337) (fun _ h9 => h9) rfl dX4_become_5 ?_
  refine i_call (va_runV (As := [.ref nho]) (rest := []) ⟨hx, hb, hml, hown, hts⟩ (c_X3_become l D cI cQ cM cR F sho nho shw shs nhw nhs (sub_F hLF [1, 2, 3, 24, 25, 26] rfl)) (cwV 1 hts (gV q_978 q_979 q_980 q_67 q_981) rfl rfl rfl (by decide +kernel) ⟨Nat.le_of_ble_eq_true rfl, Nat.le_of_ble_eq_true rfl⟩) ⟨PP_blind, va_recv hK hP (ci := 3) (q0 := 1) rfl rfl, PP_of hK (hP.sub [1, 2, 3, 24, 25, 26] rfl)⟩ rfl rfl hl.1 rfl (lv_room (Nat.le_of_ble_eq_true rfl)) dX4_become_8 ⟨Nat.le_of_ble_eq_true rfl, Nat.le_of_ble_eq_true rfl⟩) hG hLc (fun H hGG hkk locs hG hLc => ?_)
  have hP := hP.kept (fun k q hk => hkk q.1 (hP k q hk).lt)
  refine lv_aload_n hx hb dX4_become_11 rfl (lv_at hl 0 rfl) ?_
  refine va_get (D := D) (ci := 4) (v := .ref sdk) (C := RX4) (T := TX4) (N := 13) hx hb hts in_X4 hown hK hP 0 rfl rfl 1 (by decide) (hts _ q_339) (fun _ h9 => h9) rfl dX4_become_12 ?_
  refine lv_aload_n hx hb dX4_become_15 rfl (lv_at hl 1 rfl) ?_
  refine va_get (D := D) (ci := 4) (v := .ref ndk) (C := RX4) (T := TX4) (N := 13) hx hb hts in_X4 hown hK hP 23 rfl rfl 1 (by decide) (hts _ q_339) (fun _ h9 => h9) rfl dX4_become_16 ?_
  refine i_call (va_runV (As := [.ref ndk]) (rest := []) ⟨hx, hb, hml, hown, hts⟩ (c_X2_become l D cI cQ cM cR F sdk ndk sdq sdr ndq ndr sQ nQ (part_F hLF [4, 5, 6, 27, 28, 29] rfl)) (cwV 1 hts (gV q_983 q_984 q_985 q_68 q_986) rfl rfl rfl (by decide +kernel) ⟨Nat.le_of_ble_eq_true rfl, Nat.le_of_ble_eq_true rfl⟩) ⟨PP_blind, va_recv hK hP (ci := 2) (q0 := 4) rfl rfl, PP_of hK (hP.part [4, 5, 6, 27, 28, 29] rfl)⟩ rfl rfl hl.1 rfl (lv_room (Nat.le_of_ble_eq_true rfl)) dX4_become_19 ⟨Nat.le_of_ble_eq_true rfl, Nat.le_of_ble_eq_true rfl⟩) hG hLc (fun H hGG hkk locs hG hLc => ?_)
  have hP := hP.kept (fun k q hk => hkk q.1 (hP k q hk).lt)
  refine lv_aload_n hx hb dX4_become_22 rfl (lv_at hl 0 rfl) ?_
  refine va_get (D := D) (ci := 4) (v := .ref ssh) (C := RX4) (T := TX4) (N := 13) hx hb hts in_X4 hown hK hP 0 rfl rfl 2 (by decide) (hts _ q_341) (fun _ h9 => h9) rfl dX4_become_23 ?_
  refine lv_aload_n hx hb dX4_become_26 rfl (lv_at hl 1 rfl) ?_
  refine va_get (D := D) (ci := 4) (v := .ref nsh) (C := RX4) (T := TX4) (N := 13) hx hb hts in_X4 hown hK hP 23 rfl rfl 2 (by decide) (hts _ q_341) (fun _ h9 => h9) rfl dX4_become_27 ?_
  refine i_call (va_runV (As := [.ref nsh]) (rest := []) ⟨hx, hb, hml, hown, hts⟩ (c_X9_become l D cI cQ cM cR F ssh nsh sst sss ssp nst nss nsp (sub_F hLF [7, 8, 9, 10, 30, 31, 32, 33] rfl)) (cwV 1 hts (gV q_992 q_993 q_994 q_71 q_995) rfl rfl rfl (by decide +kernel) ⟨Nat.le_of_ble_eq_true rfl, Nat.le_of_ble_eq_true rfl⟩) ⟨PP_blind, va_recv hK hP (ci := 9) (q0 := 7) rfl rfl, PP_of hK (hP.sub [7, 8, 9, 10, 30, 31, 32, 33] rfl)⟩ rfl rfl hl.1 rfl (lv_room (Nat.le_of_ble_eq_true rfl)) dX4_become_30 ⟨Nat.le_of_ble_eq_true rfl, Nat.le_of_ble_eq_true rfl⟩) hG hLc (fun H hGG hkk locs hG hLc => ?_)
  have hP := hP.kept (fun k q hk => hkk q.1 (hP k q hk).lt)
  refine lv_aload_n hx hb dX4_become_33 rfl (lv_at hl 0 rfl) ?_
  refine va_get (D := D) (ci := 4) (v := .ref smi) (C := RX4) (T := TX4) (N := 13) hx hb hts in_X4 hown hK hP 0 rfl rfl 3 (by decide) (hts _ q_343) (fun _ h9 => h9) rfl dX4_become_34 ?_
  refine lv_aload_n hx hb dX4_become_37 rfl (lv_at hl 1 rfl) ?_
  refine va_get (D := D) (ci := 4) (v := .ref nmi) (C := RX4) (T := TX4) (N := 13) hx hb hts in_X4 hown hK hP 23 rfl rfl 3 (by decide) (hts _ q_343) (fun _ h9 => h9) rfl dX4_become_38 ?_
  refine i_call (va_runV (As := [.ref nmi]) (rest := []) ⟨hx, hb, hml, hown, hts⟩ (c_X5_become l D cI cQ cM cR F smi nmi sma smb smc smd smm nma nmb nmc nmd nmm (sub_F hLF [11, 12, 13, 14, 15, 16, 34, 35, 36, 37, 38, 39] rfl)) (cwV 1 hts (gV q_996 q_997 q_998 q_72 q_999) rfl rfl rfl (by decide +kernel) ⟨Nat.le_of_ble_eq_true rfl, Nat.le_of_ble_eq_true rfl⟩) ⟨PP_blind, va_recv hK hP (ci := 5) (q0 := 11) rfl rfl, PP_of hK (hP.sub [11, 12, 13, 14, 15, 16, 34, 35, 36, 37, 38, 39] rfl)⟩ rfl rfl hl.1 rfl (lv_room (Nat.le_of_ble_eq_true rfl)) dX4_become_41 ⟨Nat.le_of_ble_eq_true rfl, Nat.le_of_ble_eq_true rfl⟩) hG hLc (fun H hGG hkk locs hG hLc => ?_)
  have hP := hP.kept (fun k q hk => hkk q.1 (hP k q hk).lt)
  refine lv_aload_n hx hb dX4_become_44 rfl (lv_at hl 0 rfl) ?_
  refine va_get (D := D) (ci := 4) (v := .ref sba) (C := RX4) (T := TX4) (N := 13) hx hb hts in_X4 hown hK hP 0 rfl rfl 4 (by decide) (hts _ q_345) (fun _ h9 => h9) rfl dX4_become_45 ?_
  refine lv_aload_n hx hb dX4_become_48 rfl (lv_at hl 1 rfl) ?_
  refine va_get (D := D) (ci := 4) (v := .ref nba) (C := RX4) (T := TX4) (N := 13) hx hb hts in_X4 hown hK hP 23 rfl rfl 4 (by decide) (hts _ q_345) (fun _ h9 => h9) rfl dX4_become_49 ?_
  refine i_call (va_runV (As := [.ref nba]) (rest := []) ⟨hx, hb, hml, hown, hts⟩ (c_X0_become l D cI cQ cM cR F sba nba sby sbn nby nbn (sub_F hLF [17, 18, 19, 40, 41, 42] rfl)) (cwV 1 hts (gV q_1001 q_1002 q_1003 q_73 q_1004) rfl rfl rfl (by decide +kernel) ⟨Nat.le_of_ble_eq_true rfl, Nat.le_of_ble_eq_true rfl⟩) ⟨PP_blind, va_recv hK hP (ci := 0) (q0 := 17) rfl rfl, PP_of hK (hP.sub [17, 18, 19, 40, 41, 42] rfl)⟩ rfl rfl hl.1 rfl (lv_room (Nat.le_of_ble_eq_true rfl)) dX4_become_52 ⟨Nat.le_of_ble_eq_true rfl, Nat.le_of_ble_eq_true rfl⟩) hG hLc (fun H hGG hkk locs hG hLc => ?_)
  have hP := hP.kept (fun k q hk => hkk q.1 (hP k q hk).lt)
  refine lv_aload_n hx hb dX4_become_55 rfl (lv_at hl 0 rfl) ?_
  refine va_get (D := D) (ci := 4) (v := .ref sde) (C := RX4) (T := TX4) (N := 13) hx hb hts in_X4 hown hK hP 0 rfl rfl 5 (by decide) (hts _ q_347) (fun _ h9 => h9) rfl dX4_become_56 ?_
  refine lv_aload_n hx hb dX4_become_59 rfl (lv_at hl 1 rfl) ?_
  refine va_get (D := D) (ci := 4) (v := .ref nde) (C := RX4) (T := TX4) (N := 13) hx hb hts in_X4 hown hK hP 23 rfl rfl 5 (by decide) (hts _ q_347) (fun _ h9 => h9) rfl dX4_become_60 ?_
  refine i_call (va_runV (As := [.ref nde]) (rest := []) ⟨hx, hb, hml, hown, hts⟩ (c_X1_become l D cI cQ cM cR F sde nde (sub_F hLF [20, 43] rfl)) (cwV 1 hts (gV q_1006 q_1007 q_1008 q_74 q_1009) rfl rfl rfl (by decide +kernel) ⟨Nat.le_of_ble_eq_true rfl, Nat.le_of_ble_eq_true rfl⟩) ⟨PP_blind, va_recv hK hP (ci := 1) (q0 := 20) rfl rfl, PP_of hK (hP.sub [20, 43] rfl)⟩ rfl rfl hl.1 rfl (lv_room (Nat.le_of_ble_eq_true rfl)) dX4_become_63 ⟨Nat.le_of_ble_eq_true rfl, Nat.le_of_ble_eq_true rfl⟩) hG hLc (fun H hGG hkk locs hG hLc => ?_)
  have hP := hP.kept (fun k q hk => hkk q.1 (hP k q hk).lt)
  refine lv_aload_n hx hb dX4_become_66 rfl (lv_at hl 0 rfl) ?_
  refine va_get (D := D) (ci := 4) (v := .ref sbu) (C := RX4) (T := TX4) (N := 13) hx hb hts in_X4 hown hK hP 0 rfl rfl 6 (by decide) (hts _ q_349) (fun _ h9 => h9) rfl dX4_become_67 ?_
  refine lv_aload_n hx hb dX4_become_70 rfl (lv_at hl 1 rfl) ?_
  refine va_get (D := D) (ci := 4) (v := .ref nbu) (C := RX4) (T := TX4) (N := 13) hx hb hts in_X4 hown hK hP 23 rfl rfl 6 (by decide) (hts _ q_349) (fun _ h9 => h9) rfl dX4_become_71 ?_
  refine i_call (va_runV (As := [.ref nbu]) (rest := []) ⟨hx, hb, hml, hown, hts⟩ (c_X10_become l D cI cQ cM cR F sbu nbu sbc nbc (sub_F hLF [21, 22, 44, 45] rfl)) (cwV 1 hts (gV q_605 q_606 q_607 q_70 q_608) rfl rfl rfl (by decide +kernel) ⟨Nat.le_of_ble_eq_true rfl, Nat.le_of_ble_eq_true rfl⟩) ⟨PP_blind, va_recv hK hP (ci := 10) (q0 := 21) rfl rfl, PP_of hK (hP.sub [21, 22, 44, 45] rfl)⟩ rfl rfl hl.1 rfl (lv_room (Nat.le_of_ble_eq_true rfl)) dX4_become_74 ⟨Nat.le_of_ble_eq_true rfl, Nat.le_of_ble_eq_true rfl⟩) hG hLc (fun H hGG hkk locs hG hLc => ?_)
  have hP := hP.kept (fun k q hk => hkk q.1 (hP k q hk).lt)
  refine lv_aload_n hx hb dX4_become_77 rfl (lv_at hl 0 rfl) ?_
  refine lv_aload_n hx hb dX4_become_78 rfl (lv_at hl 1 rfl) ?_
  refine va_get (D := D) (ci := 4) (v := .int 1) (C := RX4) (T := TX4) (N := 13) hx hb hts in_X4 hown hK hP 23 rfl rfl 7 (by decide) (hts _ q_351) (fun _ h9 => h9) rfl dX4_become_79 ?_
  refine sm_put (D := D) (ci := 4) (v := .int 1) (ty := .boolean) (C := RX4) (T := TX4) (N := 13) hx hb hts in_X4 hown hK hP 0 rfl rfl 7 (by decide) (hts _ q_351) (fun _ h9 => h9) rfl (by decide +kernel) rfl rfl rfl (hLF 0 rfl) dX4_become_82 hLc (fun locs hLc => ?_)
  refine lv_aload_n hx hb dX4_become_85 rfl (lv_at hl 0 rfl) ?_
  refine lv_aload_n hx hb dX4_become_86 rfl (lv_at hl 1 rfl) ?_
  refine va_get (D := D) (ci := 4) (v := .int 0) (C := RX4) (T := TX4) (N := 13) hx hb hts in_X4 hown hK hP 23 rfl rfl 8 (by decide) (hts _ q_353) (fun _ h9 => h9) rfl dX4_become_87 ?_
  refine sm_put (D := D) (ci := 4) (v := .int 0) (ty := .int) (C := RX4) (T := TX4) (N := 13) hx hb hts in_X4 hown hK hP 0 rfl rfl 8 (by decide) (hts _ q_353) (fun _ h9 => h9) rfl (by decide +kernel) rfl rfl rfl (hLF 0 rfl) dX4_become_90 hLc (fun locs hLc => ?_)
  refine lv_aload_n hx hb dX4_become_93 rfl (lv_at hl 0 rfl) ?_
  refine lv_aload_n hx hb dX4_become_94 rfl (lv_at hl 1 rfl) ?_
  refine va_get (D := D) (ci := 4) (v := .null) (C := RX4) (T := TX4) (N := 13) hx hb hts in_X4 hown hK hP 23 rfl rfl 9 (by decide) (hts _ q_355) (fun _ h9 => h9) rfl dX4_become_95 ?_
  refine sm_put (D := D) (ci := 4) (v := .null) (ty := .object "AssemblyChair$Motion") (C := RX4) (T := TX4) (N := 13) hx hb hts in_X4 hown hK hP 0 rfl rfl 9 (by decide) (hts _ q_355) (fun _ h9 => h9) rfl (by decide +kernel) rfl rfl rfl (hLF 0 rfl) dX4_become_98 hLc (fun locs hLc => ?_)
  refine lv_aload_n hx hb dX4_become_101 rfl (lv_at hl 0 rfl) ?_
  refine lv_aload_n hx hb dX4_become_102 rfl (lv_at hl 1 rfl) ?_
  refine va_get (D := D) (ci := 4) (v := .int 0) (C := RX4) (T := TX4) (N := 13) hx hb hts in_X4 hown hK hP 23 rfl rfl 10 (by decide) (hts _ q_357) (fun _ h9 => h9) rfl dX4_become_103 ?_
  refine sm_put (D := D) (ci := 4) (v := .int 0) (ty := .int) (C := RX4) (T := TX4) (N := 13) hx hb hts in_X4 hown hK hP 0 rfl rfl 10 (by decide) (hts _ q_357) (fun _ h9 => h9) rfl (by decide +kernel) rfl rfl rfl (hLF 0 rfl) dX4_become_106 hLc (fun locs hLc => ?_)
  refine lv_aload_n hx hb dX4_become_109 rfl (lv_at hl 0 rfl) ?_
  refine lv_aload_n hx hb dX4_become_110 rfl (lv_at hl 1 rfl) ?_
  refine va_get (D := D) (ci := 4) (v := .int 0) (C := RX4) (T := TX4) (N := 13) hx hb hts in_X4 hown hK hP 23 rfl rfl 11 (by decide) (hts _ q_359) (fun _ h9 => h9) rfl dX4_become_111 ?_
  refine sm_put (D := D) (ci := 4) (v := .int 0) (ty := .int) (C := RX4) (T := TX4) (N := 13) hx hb hts in_X4 hown hK hP 0 rfl rfl 11 (by decide) (hts _ q_359) (fun _ h9 => h9) rfl (by decide +kernel) rfl rfl rfl (hLF 0 rfl) dX4_become_114 hLc (fun locs hLc => ?_)
  refine lv_aload_n hx hb dX4_become_117 rfl (lv_at hl 0 rfl) ?_
  refine lv_aload_n hx hb dX4_become_118 rfl (lv_at hl 1 rfl) ?_
  refine va_get (D := D) (ci := 4) (v := .int 0) (C := RX4) (T := TX4) (N := 13) hx hb hts in_X4 hown hK hP 23 rfl rfl 12 (by decide) (hts _ q_361) (fun _ h9 => h9) rfl dX4_become_119 ?_
  refine sm_put (D := D) (ci := 4) (v := .int 0) (ty := .int) (C := RX4) (T := TX4) (N := 13) hx hb hts in_X4 hown hK hP 0 rfl rfl 12 (by decide) (hts _ q_361) (fun _ h9 => h9) rfl (by decide +kernel) rfl rfl rfl (hLF 0 rfl) dX4_become_122 hLc (fun locs hLc => ?_)
  exact W.vret hx hb hr (fun t ht hW => ⟨rfl, by rw [ht]; exact hG⟩) hLc dX4_become_125
theorem dX11_image_0 : decode cX11_image 0 = .ok (.aload_n 0, 1) := by decide +kernel
theorem dX11_image_1 : decode cX11_image 1 = .ok (.getfield 18, 3) := by decide +kernel
theorem dX11_image_4 : decode cX11_image 4 = .ok (.aload_n 0, 1) := by decide +kernel
theorem dX11_image_5 : decode cX11_image 5 = .ok (.getfield 12, 3) := by decide +kernel
theorem dX11_image_8 : decode cX11_image 8 = .ok (.invokevirtual 416, 3) := by decide +kernel
theorem dX11_image_11 : decode cX11_image 11 = .ok (.aload_n 0, 1) := by decide +kernel
theorem dX11_image_12 : decode cX11_image 12 = .ok (.iconst 1, 1) := by decide +kernel
theorem dX11_image_13 : decode cX11_image 13 = .ok (.putfield 419, 3) := by decide +kernel
theorem dX11_image_16 : decode cX11_image 16 = .ok (.aload_n 0, 1) := by decide +kernel
theorem dX11_image_17 : decode cX11_image 17 = .ok (.getfield 12, 3) := by decide +kernel
theorem dX11_image_20 : decode cX11_image 20 = .ok (.getfield 133, 3) := by decide +kernel
theorem dX11_image_23 : decode cX11_image 23 = .ok (.getfield 361, 3) := by decide +kernel
theorem dX11_image_26 : decode cX11_image 26 = .ok (.ireturn, 1) := by decide +kernel
set_option maxRecDepth 100000 in
theorem q_977 : (.code yX4_become cX4_become 2 none) ∈ lw_all := List.mem_filter.mpr ⟨List.mem_of_getElem? (i := 977) (rfl), by decide +kernel⟩
set_option maxRecDepth 100000 in
theorem q_414 : (.fieldLink RX11 419 "AssemblyChair" "hasSnapshot" "Z") ∈ lw_all := List.mem_filter.mpr ⟨List.mem_of_getElem? (i := 414) (by decide +kernel), by decide +kernel⟩
set_option maxRecDepth 100000 in
theorem q_975 : (.instanceMethod yX4_become) ∈ lw_all := List.mem_filter.mpr ⟨List.mem_of_getElem? (i := 975) (by decide +kernel), by decide +kernel⟩
set_option maxRecDepth 100000 in
theorem q_974 : (.methodLink RX11 416 yX4_become) ∈ lw_all := List.mem_filter.mpr ⟨List.mem_of_getElem? (i := 974) (by decide +kernel), by decide +kernel⟩
set_option maxRecDepth 100000 in
theorem q_976 : (.selects RX4 yX4_become yX4_become) ∈ lw_all := List.mem_filter.mpr ⟨List.mem_of_getElem? (i := 976) (by decide +kernel), by decide +kernel⟩
set_option maxHeartbeats 4000000 in
set_option maxRecDepth 100000 in
theorem c_X11_image (l : Launch) (D : va_G) (cI cQ cM cR : ClassId) (x0 : Nat) (nme : Nat) (sme : Nat) (xr : Nat) (xs : Nat) (sho : Nat) (sdk : Nat) (ssh : Nat) (smi : Nat) (sba : Nat) (sde : Nat) (sbu : Nat) (shw : Nat) (shs : Nat) (sdq : Nat) (sdr : Nat) (sst : Nat) (sss : Nat) (ssp : Nat) (sma : Nat) (smb : Nat) (smc : Nat) (smd : Nat) (smm : Nat) (sby : Nat) (sbn : Nat) (sbc : Nat) (nho : Nat) (ndk : Nat) (nsh : Nat) (nmi : Nat) (nba : Nat) (nde : Nat) (nbu : Nat) (nhw : Nat) (nhs : Nat) (ndq : Nat) (ndr : Nat) (nst : Nat) (nss : Nat) (nsp : Nat) (nma : Nat) (nmb : Nat) (nmc : Nat) (nmd : Nat) (nmm : Nat) (nby : Nat) (nbn : Nat) (nbc : Nat) (sQ : Nat → QB) (nQ : Nat → QB) (sz : Nat) : Met l yX11_image (ws_ yX11_image cX11_image 1 (some .int)) ({ frames := 5, cells := 0, slots := 0, locals := 125 }) (PW D cI cQ cM cR [.ref x0] ([(x0, .inr (11, [.ref nme, .ref sme, .int 0, .ref xr, .ref xs])), (sme, .inr (4, [.ref sho, .ref sdk, .ref ssh, .ref smi, .ref sba, .ref sde, .ref sbu, .int 1, .int 0, .null, .int 0, .int 0, .int 0])), (sho, .inr (3, [.int 0, .int 50, .int 0, .ref shw, .ref shs])), (shw, .inl (cI, 12, .inl (fun _ => 0))), (shs, .inl (cI, 12, .inl (fun _ => 0))), (sdk, .inr (2, [.int 0, .int 0, .ref sdq, .ref sdr])), (sdq, .inl (cQ, 20, .inr (.inr (.inr (.inr (qf sQ 20)))))), (sdr, .inl (cI, 20, .inl (fun _ => 0))), (ssh, .inr (9, [.int 0, .ref sst, .ref sss, .ref ssp])), (sst, .inl (cM, 160, .inr (.inr (.inr (.inr (fun _ => none)))))), (sss, .inl (cI, 160, .inl (fun _ => 0))), (ssp, .inl (cI, 160, .inl (fun _ => 0))), (smi, .inr (5, [.int 0, .int 0, .ref sma, .ref smb, .ref smc, .ref smd, .ref smm])), (sma, .inl (cI, 120, .inl (fun _ => 0))), (smb, .inl (cI, 120, .inl (fun _ => 0))), (smc, .inl (cI, 120, .inl (fun _ => 0))), (smd, .inl (cI, 120, .inl (fun _ => 0))), (smm, .inl (cM, 120, .inr (.inr (.inr (.inr (fun _ => none)))))), (sba, .inr (0, [.int 0, .int 0, .int 0, .ref sby, .ref sbn, .int 0, .int 0, .int 0, .int 0, .int 0, .int 99, .int 0, .int 0])), (sby, .inl (cI, 40, .inl (fun _ => 0))), (sbn, .inl (cI, 40, .inl (fun _ => 0))), (sde, .inr (1, [.int (-5), .int 0, .int 0])), (sbu, .inr (10, [.int 0, .ref sbc])), (sbc, .inl (cI, 8, .inl (fun _ => 0))), (nme, .inr (4, [.ref nho, .ref ndk, .ref nsh, .ref nmi, .ref nba, .ref nde, .ref nbu, .int 1, .int 0, .null, .int 0, .int 0, .int 0])), (nho, .inr (3, [.int 0, .int 50, .int 0, .ref nhw, .ref nhs])), (nhw, .inl (cI, 12, .inl (fun _ => 0))), (nhs, .inl (cI, 12, .inl (fun _ => 0))), (ndk, .inr (2, [.int 0, .int 0, .ref ndq, .ref ndr])), (ndq, .inl (cQ, 20, .inr (.inr (.inr (.inr (qf nQ 20)))))), (ndr, .inl (cI, 20, .inl (fun _ => 0))), (nsh, .inr (9, [.int 0, .ref nst, .ref nss, .ref nsp])), (nst, .inl (cM, 160, .inr (.inr (.inr (.inr (fun _ => none)))))), (nss, .inl (cI, 160, .inl (fun _ => 0))), (nsp, .inl (cI, 160, .inl (fun _ => 0))), (nmi, .inr (5, [.int 0, .int 0, .ref nma, .ref nmb, .ref nmc, .ref nmd, .ref nmm])), (nma, .inl (cI, 120, .inl (fun _ => 0))), (nmb, .inl (cI, 120, .inl (fun _ => 0))), (nmc, .inl (cI, 120, .inl (fun _ => 0))), (nmd, .inl (cI, 120, .inl (fun _ => 0))), (nmm, .inl (cM, 120, .inr (.inr (.inr (.inr (fun _ => none)))))), (nba, .inr (0, [.int 0, .int 0, .int 0, .ref nby, .ref nbn, .int 0, .int 0, .int 0, .int 0, .int 0, .int 99, .int 0, .int 0])), (nby, .inl (cI, 40, .inl (fun _ => 0))), (nbn, .inl (cI, 40, .inl (fun _ => 0))), (nde, .inr (1, [.int (-5), .int 0, .int 0])), (nbu, .inr (10, [.int 0, .ref nbc])), (nbc, .inl (cI, 8, .inl (fun _ => 0)))] ++ ((qsW cI sQ 20) ++ (qsW cI nQ 20))) sz) (va_Qi (fun (r : Int32) (_ : Unit) => r = 0) (fun (_ : Unit) (_ : State) => True) (va_A ([(x0, .inr (11, [.ref nme, .ref sme, .int 0, .ref xr, .ref xs])), (sme, .inr (4, [.ref sho, .ref sdk, .ref ssh, .ref smi, .ref sba, .ref sde, .ref sbu, .int 1, .int 0, .null, .int 0, .int 0, .int 0])), (sho, .inr (3, [.int 0, .int 50, .int 0, .ref shw, .ref shs])), (shw, .inl (cI, 12, .inl (fun _ => 0))), (shs, .inl (cI, 12, .inl (fun _ => 0))), (sdk, .inr (2, [.int 0, .int 0, .ref sdq, .ref sdr])), (sdq, .inl (cQ, 20, .inr (.inr (.inr (.inr (qf sQ 20)))))), (sdr, .inl (cI, 20, .inl (fun _ => 0))), (ssh, .inr (9, [.int 0, .ref sst, .ref sss, .ref ssp])), (sst, .inl (cM, 160, .inr (.inr (.inr (.inr (fun _ => none)))))), (sss, .inl (cI, 160, .inl (fun _ => 0))), (ssp, .inl (cI, 160, .inl (fun _ => 0))), (smi, .inr (5, [.int 0, .int 0, .ref sma, .ref smb, .ref smc, .ref smd, .ref smm])), (sma, .inl (cI, 120, .inl (fun _ => 0))), (smb, .inl (cI, 120, .inl (fun _ => 0))), (smc, .inl (cI, 120, .inl (fun _ => 0))), (smd, .inl (cI, 120, .inl (fun _ => 0))), (smm, .inl (cM, 120, .inr (.inr (.inr (.inr (fun _ => none)))))), (sba, .inr (0, [.int 0, .int 0, .int 0, .ref sby, .ref sbn, .int 0, .int 0, .int 0, .int 0, .int 0, .int 99, .int 0, .int 0])), (sby, .inl (cI, 40, .inl (fun _ => 0))), (sbn, .inl (cI, 40, .inl (fun _ => 0))), (sde, .inr (1, [.int (-5), .int 0, .int 0])), (sbu, .inr (10, [.int 0, .ref sbc])), (sbc, .inl (cI, 8, .inl (fun _ => 0))), (nme, .inr (4, [.ref nho, .ref ndk, .ref nsh, .ref nmi, .ref nba, .ref nde, .ref nbu, .int 1, .int 0, .null, .int 0, .int 0, .int 0])), (nho, .inr (3, [.int 0, .int 50, .int 0, .ref nhw, .ref nhs])), (nhw, .inl (cI, 12, .inl (fun _ => 0))), (nhs, .inl (cI, 12, .inl (fun _ => 0))), (ndk, .inr (2, [.int 0, .int 0, .ref ndq, .ref ndr])), (ndq, .inl (cQ, 20, .inr (.inr (.inr (.inr (qf nQ 20)))))), (ndr, .inl (cI, 20, .inl (fun _ => 0))), (nsh, .inr (9, [.int 0, .ref nst, .ref nss, .ref nsp])), (nst, .inl (cM, 160, .inr (.inr (.inr (.inr (fun _ => none)))))), (nss, .inl (cI, 160, .inl (fun _ => 0))), (nsp, .inl (cI, 160, .inl (fun _ => 0))), (nmi, .inr (5, [.int 0, .int 0, .ref nma, .ref nmb, .ref nmc, .ref nmd, .ref nmm])), (nma, .inl (cI, 120, .inl (fun _ => 0))), (nmb, .inl (cI, 120, .inl (fun _ => 0))), (nmc, .inl (cI, 120, .inl (fun _ => 0))), (nmd, .inl (cI, 120, .inl (fun _ => 0))), (nmm, .inl (cM, 120, .inr (.inr (.inr (.inr (fun _ => none)))))), (nba, .inr (0, [.int 0, .int 0, .int 0, .ref nby, .ref nbn, .int 0, .int 0, .int 0, .int 0, .int 0, .int 99, .int 0, .int 0])), (nby, .inl (cI, 40, .inl (fun _ => 0))), (nbn, .inl (cI, 40, .inl (fun _ => 0))), (nde, .inr (1, [.int (-5), .int 0, .int 0])), (nbu, .inr (10, [.int 0, .ref nbc])), (nbc, .inl (cI, 8, .inl (fun _ => 0)))] ++ ((qsW cI sQ 20) ++ (qsW cI nQ 20))) sz)) 0 0 (va_A ([(x0, .inr (11, [.ref nme, .ref sme, .int 0, .ref xr, .ref xs])), (sme, .inr (4, [.ref sho, .ref sdk, .ref ssh, .ref smi, .ref sba, .ref sde, .ref sbu, .int 1, .int 0, .null, .int 0, .int 0, .int 0])), (sho, .inr (3, [.int 0, .int 50, .int 0, .ref shw, .ref shs])), (shw, .inl (cI, 12, .inl (fun _ => 0))), (shs, .inl (cI, 12, .inl (fun _ => 0))), (sdk, .inr (2, [.int 0, .int 0, .ref sdq, .ref sdr])), (sdq, .inl (cQ, 20, .inr (.inr (.inr (.inr (qf sQ 20)))))), (sdr, .inl (cI, 20, .inl (fun _ => 0))), (ssh, .inr (9, [.int 0, .ref sst, .ref sss, .ref ssp])), (sst, .inl (cM, 160, .inr (.inr (.inr (.inr (fun _ => none)))))), (sss, .inl (cI, 160, .inl (fun _ => 0))), (ssp, .inl (cI, 160, .inl (fun _ => 0))), (smi, .inr (5, [.int 0, .int 0, .ref sma, .ref smb, .ref smc, .ref smd, .ref smm])), (sma, .inl (cI, 120, .inl (fun _ => 0))), (smb, .inl (cI, 120, .inl (fun _ => 0))), (smc, .inl (cI, 120, .inl (fun _ => 0))), (smd, .inl (cI, 120, .inl (fun _ => 0))), (smm, .inl (cM, 120, .inr (.inr (.inr (.inr (fun _ => none)))))), (sba, .inr (0, [.int 0, .int 0, .int 0, .ref sby, .ref sbn, .int 0, .int 0, .int 0, .int 0, .int 0, .int 99, .int 0, .int 0])), (sby, .inl (cI, 40, .inl (fun _ => 0))), (sbn, .inl (cI, 40, .inl (fun _ => 0))), (sde, .inr (1, [.int (-5), .int 0, .int 0])), (sbu, .inr (10, [.int 0, .ref sbc])), (sbc, .inl (cI, 8, .inl (fun _ => 0))), (nme, .inr (4, [.ref nho, .ref ndk, .ref nsh, .ref nmi, .ref nba, .ref nde, .ref nbu, .int 1, .int 0, .null, .int 0, .int 0, .int 0])), (nho, .inr (3, [.int 0, .int 50, .int 0, .ref nhw, .ref nhs])), (nhw, .inl (cI, 12, .inl (fun _ => 0))), (nhs, .inl (cI, 12, .inl (fun _ => 0))), (ndk, .inr (2, [.int 0, .int 0, .ref ndq, .ref ndr])), (ndq, .inl (cQ, 20, .inr (.inr (.inr (.inr (qf nQ 20)))))), (ndr, .inl (cI, 20, .inl (fun _ => 0))), (nsh, .inr (9, [.int 0, .ref nst, .ref nss, .ref nsp])), (nst, .inl (cM, 160, .inr (.inr (.inr (.inr (fun _ => none)))))), (nss, .inl (cI, 160, .inl (fun _ => 0))), (nsp, .inl (cI, 160, .inl (fun _ => 0))), (nmi, .inr (5, [.int 0, .int 0, .ref nma, .ref nmb, .ref nmc, .ref nmd, .ref nmm])), (nma, .inl (cI, 120, .inl (fun _ => 0))), (nmb, .inl (cI, 120, .inl (fun _ => 0))), (nmc, .inl (cI, 120, .inl (fun _ => 0))), (nmd, .inl (cI, 120, .inl (fun _ => 0))), (nmm, .inl (cM, 120, .inr (.inr (.inr (.inr (fun _ => none)))))), (nba, .inr (0, [.int 0, .int 0, .int 0, .ref nby, .ref nbn, .int 0, .int 0, .int 0, .int 0, .int 0, .int 99, .int 0, .int 0])), (nby, .inl (cI, 40, .inl (fun _ => 0))), (nbn, .inl (cI, 40, .inl (fun _ => 0))), (nde, .inr (1, [.int (-5), .int 0, .int 0])), (nbu, .inr (10, [.int 0, .ref nbc])), (nbc, .inl (cI, 8, .inl (fun _ => 0)))] ++ ((qsW cI sQ 20) ++ (qsW cI nQ 20))) sz) := by
  refine Met.ofW (cc := cX11_image) (maxL := 1) (ret := (some .int)) (by decide) rfl ?_
  intro p e s m args below meth c s₁ B hml hv
  obtain ⟨rfl, hsz, hP, hK, hD0⟩ := hv
  have hx := B.exec
  have hb := B.bytes
  have hr := B.returns
  have hts : ∀ w ∈ lw_all, w.before _ s = true := fun w h => atoms_spec (ws := (ws_ yX11_image cX11_image 1 (some .int))) B.pre w (List.mem_cons_of_mem _ h)
  have hown : s.vm.findClass RX11 = some m.cls := findClass_of_methodNamed B.named
  have hlocks := B.notSynchronized
  subst hsz
  have hD := hD0.self (sz := s.heap.size)
  generalize hAe : va_A ([(x0, .inr (11, [.ref nme, .ref sme, .int 0, .ref xr, .ref xs])), (sme, .inr (4, [.ref sho, .ref sdk, .ref ssh, .ref smi, .ref sba, .ref sde, .ref sbu, .int 1, .int 0, .null, .int 0, .int 0, .int 0])), (sho, .inr (3, [.int 0, .int 50, .int 0, .ref shw, .ref shs])), (shw, .inl (cI, 12, .inl (fun _ => 0))), (shs, .inl (cI, 12, .inl (fun _ => 0))), (sdk, .inr (2, [.int 0, .int 0, .ref sdq, .ref sdr])), (sdq, .inl (cQ, 20, .inr (.inr (.inr (.inr (qf sQ 20)))))), (sdr, .inl (cI, 20, .inl (fun _ => 0))), (ssh, .inr (9, [.int 0, .ref sst, .ref sss, .ref ssp])), (sst, .inl (cM, 160, .inr (.inr (.inr (.inr (fun _ => none)))))), (sss, .inl (cI, 160, .inl (fun _ => 0))), (ssp, .inl (cI, 160, .inl (fun _ => 0))), (smi, .inr (5, [.int 0, .int 0, .ref sma, .ref smb, .ref smc, .ref smd, .ref smm])), (sma, .inl (cI, 120, .inl (fun _ => 0))), (smb, .inl (cI, 120, .inl (fun _ => 0))), (smc, .inl (cI, 120, .inl (fun _ => 0))), (smd, .inl (cI, 120, .inl (fun _ => 0))), (smm, .inl (cM, 120, .inr (.inr (.inr (.inr (fun _ => none)))))), (sba, .inr (0, [.int 0, .int 0, .int 0, .ref sby, .ref sbn, .int 0, .int 0, .int 0, .int 0, .int 0, .int 99, .int 0, .int 0])), (sby, .inl (cI, 40, .inl (fun _ => 0))), (sbn, .inl (cI, 40, .inl (fun _ => 0))), (sde, .inr (1, [.int (-5), .int 0, .int 0])), (sbu, .inr (10, [.int 0, .ref sbc])), (sbc, .inl (cI, 8, .inl (fun _ => 0))), (nme, .inr (4, [.ref nho, .ref ndk, .ref nsh, .ref nmi, .ref nba, .ref nde, .ref nbu, .int 1, .int 0, .null, .int 0, .int 0, .int 0])), (nho, .inr (3, [.int 0, .int 50, .int 0, .ref nhw, .ref nhs])), (nhw, .inl (cI, 12, .inl (fun _ => 0))), (nhs, .inl (cI, 12, .inl (fun _ => 0))), (ndk, .inr (2, [.int 0, .int 0, .ref ndq, .ref ndr])), (ndq, .inl (cQ, 20, .inr (.inr (.inr (.inr (qf nQ 20)))))), (ndr, .inl (cI, 20, .inl (fun _ => 0))), (nsh, .inr (9, [.int 0, .ref nst, .ref nss, .ref nsp])), (nst, .inl (cM, 160, .inr (.inr (.inr (.inr (fun _ => none)))))), (nss, .inl (cI, 160, .inl (fun _ => 0))), (nsp, .inl (cI, 160, .inl (fun _ => 0))), (nmi, .inr (5, [.int 0, .int 0, .ref nma, .ref nmb, .ref nmc, .ref nmd, .ref nmm])), (nma, .inl (cI, 120, .inl (fun _ => 0))), (nmb, .inl (cI, 120, .inl (fun _ => 0))), (nmc, .inl (cI, 120, .inl (fun _ => 0))), (nmd, .inl (cI, 120, .inl (fun _ => 0))), (nmm, .inl (cM, 120, .inr (.inr (.inr (.inr (fun _ => none)))))), (nba, .inr (0, [.int 0, .int 0, .int 0, .ref nby, .ref nbn, .int 0, .int 0, .int 0, .int 0, .int 0, .int 99, .int 0, .int 0])), (nby, .inl (cI, 40, .inl (fun _ => 0))), (nbn, .inl (cI, 40, .inl (fun _ => 0))), (nde, .inr (1, [.int (-5), .int 0, .int 0])), (nbu, .inr (10, [.int 0, .ref nbc])), (nbc, .inl (cI, 8, .inl (fun _ => 0)))] ++ ((qsW cI sQ 20) ++ (qsW cI nQ 20))) s.heap.size = A at hD ⊢
  have hA : ∀ q : Nat, s.heap.size ≤ q → A q := fun q h => by rw [← hAe]; exact Or.inr h
  have hS : va_S A s.heap s.heap [] := va_S.rf
  have hP : va_P D vwCl ([(x0, .inr (11, [.ref nme, .ref sme, .int 0, .ref xr, .ref xs])), (sme, .inr (4, [.ref sho, .ref sdk, .ref ssh, .ref smi, .ref sba, .ref sde, .ref sbu, .int 1, .int 0, .null, .int 0, .int 0, .int 0])), (sho, .inr (3, [.int 0, .int 50, .int 0, .ref shw, .ref shs])), (shw, .inl (cI, 12, .inl (fun _ => 0))), (shs, .inl (cI, 12, .inl (fun _ => 0))), (sdk, .inr (2, [.int 0, .int 0, .ref sdq, .ref sdr])), (sdq, .inl (cQ, 20, .inr (.inr (.inr (.inr (qf sQ 20)))))), (sdr, .inl (cI, 20, .inl (fun _ => 0))), (ssh, .inr (9, [.int 0, .ref sst, .ref sss, .ref ssp])), (sst, .inl (cM, 160, .inr (.inr (.inr (.inr (fun _ => none)))))), (sss, .inl (cI, 160, .inl (fun _ => 0))), (ssp, .inl (cI, 160, .inl (fun _ => 0))), (smi, .inr (5, [.int 0, .int 0, .ref sma, .ref smb, .ref smc, .ref smd, .ref smm])), (sma, .inl (cI, 120, .inl (fun _ => 0))), (smb, .inl (cI, 120, .inl (fun _ => 0))), (smc, .inl (cI, 120, .inl (fun _ => 0))), (smd, .inl (cI, 120, .inl (fun _ => 0))), (smm, .inl (cM, 120, .inr (.inr (.inr (.inr (fun _ => none)))))), (sba, .inr (0, [.int 0, .int 0, .int 0, .ref sby, .ref sbn, .int 0, .int 0, .int 0, .int 0, .int 0, .int 99, .int 0, .int 0])), (sby, .inl (cI, 40, .inl (fun _ => 0))), (sbn, .inl (cI, 40, .inl (fun _ => 0))), (sde, .inr (1, [.int (-5), .int 0, .int 0])), (sbu, .inr (10, [.int 0, .ref sbc])), (sbc, .inl (cI, 8, .inl (fun _ => 0))), (nme, .inr (4, [.ref nho, .ref ndk, .ref nsh, .ref nmi, .ref nba, .ref nde, .ref nbu, .int 1, .int 0, .null, .int 0, .int 0, .int 0])), (nho, .inr (3, [.int 0, .int 50, .int 0, .ref nhw, .ref nhs])), (nhw, .inl (cI, 12, .inl (fun _ => 0))), (nhs, .inl (cI, 12, .inl (fun _ => 0))), (ndk, .inr (2, [.int 0, .int 0, .ref ndq, .ref ndr])), (ndq, .inl (cQ, 20, .inr (.inr (.inr (.inr (qf nQ 20)))))), (ndr, .inl (cI, 20, .inl (fun _ => 0))), (nsh, .inr (9, [.int 0, .ref nst, .ref nss, .ref nsp])), (nst, .inl (cM, 160, .inr (.inr (.inr (.inr (fun _ => none)))))), (nss, .inl (cI, 160, .inl (fun _ => 0))), (nsp, .inl (cI, 160, .inl (fun _ => 0))), (nmi, .inr (5, [.int 0, .int 0, .ref nma, .ref nmb, .ref nmc, .ref nmd, .ref nmm])), (nma, .inl (cI, 120, .inl (fun _ => 0))), (nmb, .inl (cI, 120, .inl (fun _ => 0))), (nmc, .inl (cI, 120, .inl (fun _ => 0))), (nmd, .inl (cI, 120, .inl (fun _ => 0))), (nmm, .inl (cM, 120, .inr (.inr (.inr (.inr (fun _ => none)))))), (nba, .inr (0, [.int 0, .int 0, .int 0, .ref nby, .ref nbn, .int 0, .int 0, .int 0, .int 0, .int 0, .int 99, .int 0, .int 0])), (nby, .inl (cI, 40, .inl (fun _ => 0))), (nbn, .inl (cI, 40, .inl (fun _ => 0))), (nde, .inr (1, [.int (-5), .int 0, .int 0])), (nbu, .inr (10, [.int 0, .ref nbc])), (nbc, .inl (cI, 8, .inl (fun _ => 0)))] ++ ((qsW cI sQ 20) ++ (qsW cI nQ 20))) s.heap := hP
  have hl := lv_entry ([.ref x0]) (n := 1) (Nat.le_of_ble_eq_true rfl)
  rw [lg_entry_eq]
  generalize (lg_sl ([.ref x0]) ++ List.replicate (1 - (lg_sl ([.ref x0])).length) Slot.unset).toArray = ls at hl ⊢
  have hl : lv_has ls 1 [(0, .ref x0)] := hl
  obtain ⟨H, hH⟩ : ∃ H : Heap, H = s.heap := ⟨_, rfl⟩
  rw [← hH] at hP
  have hS : va_S A s.heap H [] := by rw [hH]; exact hS
  rw [← hH]
  refine lv_aload_n hx hb dX11_image_0 rfl (lv_at hl 0 rfl) ?_
  refine va_get (D := D) (ci := 11) (v := .ref sme) (C := RX11) (T := TX11) (N := 5) hx hb hts in_X11 hown hK hP 0 rfl rfl 1 (by decide) (hts _ q_413) (fun _ h9 => h9) rfl dX11_image_1 ?_
  refine lv_aload_n hx hb dX11_image_4 rfl (lv_at hl 0 rfl) ?_
  refine va_get (D := D) (ci := 11) (v := .ref nme) (C := RX11) (T := TX11) (N := 5) hx hb hts in_X11 hown hK hP 0 rfl rfl 0 (by decide) (hts _ q_412) (fun _ h9 => h9) rfl dX11_image_5 ?_
  refine i_callW (va_runV (As := [.ref nme]) (rest := []) ⟨hx, hb, hml, hown, hts⟩ (c_X4_become l D cI cQ cM cR A sme nme sho sdk ssh smi sba sde sbu shw shs sdq sdr sst sss ssp sma smb smc smd smm sby sbn sbc nho ndk nsh nmi nba nde nbu nhw nhs ndq ndr nst nss nsp nma nmb nmc nmd nmm nby nbn nbc sQ nQ (part_F (D_F hD) [1, 2, 3, 4, 5, 6, 7, 8, 9, 10, 11, 12, 13, 14, 15, 16, 17, 18, 19, 20, 21, 22, 23, 24, 25, 26, 27, 28, 29, 30, 31, 32, 33, 34, 35, 36, 37, 38, 39, 40, 41, 42, 43, 44, 45, 46] rfl)) (cwV 1 hts (gV q_974 q_975 q_976 q_66 q_977) rfl rfl rfl (by decide +kernel) ⟨Nat.le_of_ble_eq_true rfl, Nat.le_of_ble_eq_true rfl⟩) ⟨PP_blind, va_recv hK hP (ci := 4) (q0 := 1) rfl rfl, PP_of hK (hP.part [1, 2, 3, 4, 5, 6, 7, 8, 9, 10, 11, 12, 13, 14, 15, 16, 17, 18, 19, 20, 21, 22, 23, 24, 25, 26, 27, 28, 29, 30, 31, 32, 33, 34, 35, 36, 37, 38, 39, 40, 41, 42, 43, 44, 45, 46] rfl)⟩ rfl rfl hl.1 rfl (lv_room (Nat.le_of_ble_eq_true rfl)) dX11_image_8 ⟨Nat.le_of_ble_eq_true rfl, Nat.le_of_ble_eq_true rfl⟩) hS (fun H hkk locs hS => ?_)
  have hP := hP.kept (fun k q hk => hkk q.1 (hP k q hk).lt)
  refine lv_aload_n hx hb dX11_image_11 rfl (lv_at hl 0 rfl) ?_
  refine lv_iconst (v := 1) hx hb dX11_image_12 (by decide) ?_
  refine va_put (D := D) (ci := 11) (v := .int 1) (ty := .boolean) (C := RX11) (T := TX11) (N := 5) hx hb hts in_X11 tyX11 tyX11_ok nmX11 hown hK hP hD hS 0 rfl rfl 2 (by decide) (hts _ q_414) (fun _ h9 => h9) rfl (by decide +kernel) rfl rfl (Nat.le_of_ble_eq_true rfl) dX11_image_13 (fun H locs hP hD hS => ?_)
  have hP : va_P D vwCl ([(x0, .inr (11, [.ref nme, .ref sme, .int 1, .ref xr, .ref xs])), (sme, .inr (4, [.ref sho, .ref sdk, .ref ssh, .ref smi, .ref sba, .ref sde, .ref sbu, .int 1, .int 0, .null, .int 0, .int 0, .int 0])), (sho, .inr (3, [.int 0, .int 50, .int 0, .ref shw, .ref shs])), (shw, .inl (cI, 12, .inl (fun _ => 0))), (shs, .inl (cI, 12, .inl (fun _ => 0))), (sdk, .inr (2, [.int 0, .int 0, .ref sdq, .ref sdr])), (sdq, .inl (cQ, 20, .inr (.inr (.inr (.inr (qf sQ 20)))))), (sdr, .inl (cI, 20, .inl (fun _ => 0))), (ssh, .inr (9, [.int 0, .ref sst, .ref sss, .ref ssp])), (sst, .inl (cM, 160, .inr (.inr (.inr (.inr (fun _ => none)))))), (sss, .inl (cI, 160, .inl (fun _ => 0))), (ssp, .inl (cI, 160, .inl (fun _ => 0))), (smi, .inr (5, [.int 0, .int 0, .ref sma, .ref smb, .ref smc, .ref smd, .ref smm])), (sma, .inl (cI, 120, .inl (fun _ => 0))), (smb, .inl (cI, 120, .inl (fun _ => 0))), (smc, .inl (cI, 120, .inl (fun _ => 0))), (smd, .inl (cI, 120, .inl (fun _ => 0))), (smm, .inl (cM, 120, .inr (.inr (.inr (.inr (fun _ => none)))))), (sba, .inr (0, [.int 0, .int 0, .int 0, .ref sby, .ref sbn, .int 0, .int 0, .int 0, .int 0, .int 0, .int 99, .int 0, .int 0])), (sby, .inl (cI, 40, .inl (fun _ => 0))), (sbn, .inl (cI, 40, .inl (fun _ => 0))), (sde, .inr (1, [.int (-5), .int 0, .int 0])), (sbu, .inr (10, [.int 0, .ref sbc])), (sbc, .inl (cI, 8, .inl (fun _ => 0))), (nme, .inr (4, [.ref nho, .ref ndk, .ref nsh, .ref nmi, .ref nba, .ref nde, .ref nbu, .int 1, .int 0, .null, .int 0, .int 0, .int 0])), (nho, .inr (3, [.int 0, .int 50, .int 0, .ref nhw, .ref nhs])), (nhw, .inl (cI, 12, .inl (fun _ => 0))), (nhs, .inl (cI, 12, .inl (fun _ => 0))), (ndk, .inr (2, [.int 0, .int 0, .ref ndq, .ref ndr])), (ndq, .inl (cQ, 20, .inr (.inr (.inr (.inr (qf nQ 20)))))), (ndr, .inl (cI, 20, .inl (fun _ => 0))), (nsh, .inr (9, [.int 0, .ref nst, .ref nss, .ref nsp])), (nst, .inl (cM, 160, .inr (.inr (.inr (.inr (fun _ => none)))))), (nss, .inl (cI, 160, .inl (fun _ => 0))), (nsp, .inl (cI, 160, .inl (fun _ => 0))), (nmi, .inr (5, [.int 0, .int 0, .ref nma, .ref nmb, .ref nmc, .ref nmd, .ref nmm])), (nma, .inl (cI, 120, .inl (fun _ => 0))), (nmb, .inl (cI, 120, .inl (fun _ => 0))), (nmc, .inl (cI, 120, .inl (fun _ => 0))), (nmd, .inl (cI, 120, .inl (fun _ => 0))), (nmm, .inl (cM, 120, .inr (.inr (.inr (.inr (fun _ => none)))))), (nba, .inr (0, [.int 0, .int 0, .int 0, .ref nby, .ref nbn, .int 0, .int 0, .int 0, .int 0, .int 0, .int 99, .int 0, .int 0])), (nby, .inl (cI, 40, .inl (fun _ => 0))), (nbn, .inl (cI, 40, .inl (fun _ => 0))), (nde, .inr (1, [.int (-5), .int 0, .int 0])), (nbu, .inr (10, [.int 0, .ref nbc])), (nbc, .inl (cI, 8, .inl (fun _ => 0)))] ++ ((qsW cI sQ 20) ++ (qsW cI nQ 20))) H := hP
  have hD : va_D A ([(x0, .inr (11, [.ref nme, .ref sme, .int 1, .ref xr, .ref xs])), (sme, .inr (4, [.ref sho, .ref sdk, .ref ssh, .ref smi, .ref sba, .ref sde, .ref sbu, .int 1, .int 0, .null, .int 0, .int 0, .int 0])), (sho, .inr (3, [.int 0, .int 50, .int 0, .ref shw, .ref shs])), (shw, .inl (cI, 12, .inl (fun _ => 0))), (shs, .inl (cI, 12, .inl (fun _ => 0))), (sdk, .inr (2, [.int 0, .int 0, .ref sdq, .ref sdr])), (sdq, .inl (cQ, 20, .inr (.inr (.inr (.inr (qf sQ 20)))))), (sdr, .inl (cI, 20, .inl (fun _ => 0))), (ssh, .inr (9, [.int 0, .ref sst, .ref sss, .ref ssp])), (sst, .inl (cM, 160, .inr (.inr (.inr (.inr (fun _ => none)))))), (sss, .inl (cI, 160, .inl (fun _ => 0))), (ssp, .inl (cI, 160, .inl (fun _ => 0))), (smi, .inr (5, [.int 0, .int 0, .ref sma, .ref smb, .ref smc, .ref smd, .ref smm])), (sma, .inl (cI, 120, .inl (fun _ => 0))), (smb, .inl (cI, 120, .inl (fun _ => 0))), (smc, .inl (cI, 120, .inl (fun _ => 0))), (smd, .inl (cI, 120, .inl (fun _ => 0))), (smm, .inl (cM, 120, .inr (.inr (.inr (.inr (fun _ => none)))))), (sba, .inr (0, [.int 0, .int 0, .int 0, .ref sby, .ref sbn, .int 0, .int 0, .int 0, .int 0, .int 0, .int 99, .int 0, .int 0])), (sby, .inl (cI, 40, .inl (fun _ => 0))), (sbn, .inl (cI, 40, .inl (fun _ => 0))), (sde, .inr (1, [.int (-5), .int 0, .int 0])), (sbu, .inr (10, [.int 0, .ref sbc])), (sbc, .inl (cI, 8, .inl (fun _ => 0))), (nme, .inr (4, [.ref nho, .ref ndk, .ref nsh, .ref nmi, .ref nba, .ref nde, .ref nbu, .int 1, .int 0, .null, .int 0, .int 0, .int 0])), (nho, .inr (3, [.int 0, .int 50, .int 0, .ref nhw, .ref nhs])), (nhw, .inl (cI, 12, .inl (fun _ => 0))), (nhs, .inl (cI, 12, .inl (fun _ => 0))), (ndk, .inr (2, [.int 0, .int 0, .ref ndq, .ref ndr])), (ndq, .inl (cQ, 20, .inr (.inr (.inr (.inr (qf nQ 20)))))), (ndr, .inl (cI, 20, .inl (fun _ => 0))), (nsh, .inr (9, [.int 0, .ref nst, .ref nss, .ref nsp])), (nst, .inl (cM, 160, .inr (.inr (.inr (.inr (fun _ => none)))))), (nss, .inl (cI, 160, .inl (fun _ => 0))), (nsp, .inl (cI, 160, .inl (fun _ => 0))), (nmi, .inr (5, [.int 0, .int 0, .ref nma, .ref nmb, .ref nmc, .ref nmd, .ref nmm])), (nma, .inl (cI, 120, .inl (fun _ => 0))), (nmb, .inl (cI, 120, .inl (fun _ => 0))), (nmc, .inl (cI, 120, .inl (fun _ => 0))), (nmd, .inl (cI, 120, .inl (fun _ => 0))), (nmm, .inl (cM, 120, .inr (.inr (.inr (.inr (fun _ => none)))))), (nba, .inr (0, [.int 0, .int 0, .int 0, .ref nby, .ref nbn, .int 0, .int 0, .int 0, .int 0, .int 0, .int 99, .int 0, .int 0])), (nby, .inl (cI, 40, .inl (fun _ => 0))), (nbn, .inl (cI, 40, .inl (fun _ => 0))), (nde, .inr (1, [.int (-5), .int 0, .int 0])), (nbu, .inr (10, [.int 0, .ref nbc])), (nbc, .inl (cI, 8, .inl (fun _ => 0)))] ++ ((qsW cI sQ 20) ++ (qsW cI nQ 20))) := hD
  refine lv_aload_n hx hb dX11_image_16 rfl (lv_at hl 0 rfl) ?_
  refine va_get (D := D) (ci := 11) (v := .ref nme) (C := RX11) (T := TX11) (N := 5) hx hb hts in_X11 hown hK hP 0 rfl rfl 0 (by decide) (hts _ q_412) (fun _ h9 => h9) rfl dX11_image_17 ?_
  refine va_get (D := D) (ci := 4) (v := .ref ndk) (C := RX4) (T := TX4) (N := 13) hx hb hts in_X4 hown hK hP 24 rfl rfl 1 (by decide) (hts _ q_340) (fun _ h9 => h9) rfl dX11_image_20 ?_
  refine va_get (D := D) (ci := 2) (v := .int 0) (C := RX2) (T := TX2) (N := 4) hx hb hts in_X2 hown hK hP 28 rfl rfl 0 (by decide) (hts _ q_188) (fun _ h9 => h9) rfl dX11_image_23 ?_
  refine W.widen (k := 0) (n := 0) (Nat.le_of_ble_eq_true rfl) (Nat.le_of_ble_eq_true rfl) ?_
  exact W.iret hx hb hr (fun t ht hW => ⟨⟨_, (), rfl, rfl, trivial⟩, hS.F ht⟩) hS.2.2 dX11_image_26
