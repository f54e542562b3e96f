theorem va_P_nil {D : va_G} {cl : List vw_C} {H : Heap} : va_P D cl [] H := fun k q h => by simp at h
theorem va_D_nil {A : Nat → Prop} : va_D A [] := ⟨fun i j p q h => by simp at h, fun k q h => by simp at h⟩
def sp_delegate (v : Int32) : Int32 := if btw v 1 9 = 0 then -2 else 0
def sp_quorum (v : Int32) : Int32 := if btw v 0 100 = 0 then -2 else 50
def sp_clause (v : Int32) : Int32 := if btw v 0 99 = 0 then -2 else 1
def sp_pass (v : Int32) : Int32 := if btw v 1 500 = 0 then -2 else 0 + v
theorem btw_in {v lo hi : Int32} (h1 : ¬ v < lo) (h2 : ¬ hi < v) : ¬ btw v lo hi = 0 := by
  unfold btw
  rw [if_neg h1, if_neg h2]
  decide
theorem btw_hi {v lo hi : Int32} (h : ¬ btw v lo hi = 0) : ¬ hi < v := fun z => h (btw_gt lo z)
theorem i_nle {a b : Int32} (h : ¬ a ≤ b) : b < a := by
  have h1 : ¬ a.toInt ≤ b.toInt := fun z => h (Int32.le_iff_toInt_le.mpr z)
  exact Int32.lt_iff_toInt_lt.mpr (by omega)
theorem z_add (v : Int32) : 0 + v = v := by
  apply Int32.toBitVec_inj.mp
  show 0#32 + v.toBitVec = v.toBitVec
  simp
theorem pass_le {v : Int32} (h : ¬ (500 : Int32) < v) : 0 + v ≤ (9999 : Int32) := by
  rw [z_add]
  have h1 : ¬ (500 : Int) < v.toInt := fun z => h (Int32.lt_iff_toInt_lt.mpr z)
  exact Int32.le_iff_toInt_le.mpr (show v.toInt ≤ (9999 : Int) by omega)
theorem dX3_setPresent_0 : decode cX3_setPresent 0 = .ok (.iconst 1, 1) := by decide +kernel
theorem dX3_setPresent_1 : decode cX3_setPresent 1 = .ok (.iload_n 1, 1) := by decide +kernel
theorem dX3_setPresent_2 : decode cX3_setPresent 2 = .ok (.ishl, 1) := by decide +kernel
theorem dX3_setPresent_3 : decode cX3_setPresent 3 = .ok (.istore_n 3, 1) := by decide +kernel
theorem dX3_setPresent_4 : decode cX3_setPresent 4 = .ok (.aload_n 0, 1) := by decide +kernel
theorem dX3_setPresent_5 : decode cX3_setPresent 5 = .ok (.iload_n 2, 1) := by decide +kernel
theorem dX3_setPresent_6 : decode cX3_setPresent 6 = .ok (.ifCond .eq 12, 3) := by decide +kernel
theorem dX3_setPresent_9 : decode cX3_setPresent 9 = .ok (.aload_n 0, 1) := by decide +kernel
theorem dX3_setPresent_10 : decode cX3_setPresent 10 = .ok (.getfield 25, 3) := by decide +kernel
theorem dX3_setPresent_13 : decode cX3_setPresent 13 = .ok (.iload_n 3, 1) := by decide +kernel
theorem dX3_setPresent_14 : decode cX3_setPresent 14 = .ok (.ior, 1) := by decide +kernel
theorem dX3_setPresent_15 : decode cX3_setPresent 15 = .ok (.goto 11, 3) := by decide +kernel
theorem dX3_setPresent_26 : decode cX3_setPresent 26 = .ok (.putfield 25, 3) := by decide +kernel
theorem dX3_setPresent_29 : decode cX3_setPresent 29 = .ok (.return_, 1) := by decide +kernel
set_option maxRecDepth 100000 in
theorem q_105 : (.fieldLink RX3 25 "AssemblyChair$House" "present" "I") ∈ lw_all := List.mem_filter.mpr ⟨List.mem_of_getElem? (i := 105) (by decide +kernel), by decide +kernel⟩
set_option maxHeartbeats 4000000 in
set_option maxRecDepth 100000 in
theorem c_X3_setPresent (l : Launch) (D : va_G) (cI cQ cM cR : ClassId) (nho : Nat) (nhw : Nat) (nhs : Nat) (sz : Nat) : Met l yX3_setPresent (ws_ yX3_setPresent cX3_setPresent 4 none) ({ frames := 0, cells := 0, slots := 0, locals := 0 }) (PW D cI cQ cM cR [.ref nho, .int 0, .int 1] [(nho, .inr (3, [.int 1, .int 50, .int 0, .ref nhw, .ref nhs]))] sz) (va_Qv (fun _ => True) (fun (_ : Unit) (t : State) => va_P D vwCl [(nho, .inr (3, [.int 1, .int 50, .int 1, .ref nhw, .ref nhs]))] t.heap ∧ va_D (va_A [(nho, .inr (3, [.int 1, .int 50, .int 0, .ref nhw, .ref nhs]))] sz) [(nho, .inr (3, [.int 1, .int 50, .int 1, .ref nhw, .ref nhs]))]) (va_A [(nho, .inr (3, [.int 1, .int 50, .int 0, .ref nhw, .ref nhs]))] sz)) 0 0 (va_A [(nho, .inr (3, [.int 1, .int 50, .int 0, .ref nhw, .ref nhs]))] sz) := by
  refine Met.ofW (cc := cX3_setPresent) (maxL := 4) (ret := none) (by decide) rfl ?_
  intro p e s m args below meth c s₁ B hml hv
  obtain ⟨rfl, hsz, hP, hK, hD0⟩ := hv
  have hx := B.exec
  have hb := B.bytes
  have hr := B.returns
  have hts : ∀ w ∈ lw_all, w.before _ s = true := fun w h => atoms_spec (ws := (ws_ yX3_setPresent cX3_setPresent 4 none)) B.pre w (List.mem_cons_of_mem _ h)
  have hown : s.vm.findClass RX3 = some m.cls := findClass_of_methodNamed B.named
  have hlocks := B.notSynchronized
  subst hsz
  have hD := hD0.self (sz := s.heap.size)
  generalize hAe : va_A [(nho, .inr (3, [.int 1, .int 50, .int 0, .ref nhw, .ref nhs]))] s.heap.size = A at hD ⊢
  have hA : ∀ q : Nat, s.heap.size ≤ q → A q := fun q h => by rw [← hAe]; exact Or.inr h
  have hS : va_S A s.heap s.heap [] := va_S.rf
  have hP : va_P D vwCl [(nho, .inr (3, [.int 1, .int 50, .int 0, .ref nhw, .ref nhs]))] s.heap := hP
  have hl := lv_entry ([.ref nho, .int 0, .int 1]) (n := 4) (Nat.le_of_ble_eq_true rfl)
  rw [lg_entry_eq]
  generalize (lg_sl ([.ref nho, .int 0, .int 1]) ++ List.replicate (4 - (lg_sl ([.ref nho, .int 0, .int 1])).length) Slot.unset).toArray = ls at hl ⊢
  have hl : lv_has ls 4 [(0, .ref nho), (1, .int 0), (2, .int 1)] := hl
  obtain ⟨H, hH⟩ : ∃ H : Heap, H = s.heap := ⟨_, rfl⟩
  rw [← hH] at hP
  have hS : va_S A s.heap H [] := by rw [hH]; exact hS
  rw [← hH]
  refine lv_iconst (v := 1) hx hb dX3_setPresent_0 (by decide) ?_
  refine lv_iload_n hx hb dX3_setPresent_1 rfl (lv_at hl 1 rfl) ?_
  refine lv_ishl hx hb dX3_setPresent_2 ?_
  refine lv_cst (v := 1) (by decide) ?_
  refine lv_istore_n (lv' := [(3, .int 1), (0, .ref nho), (1, .int 0), (2, .int 1)]) hx hb dX3_setPresent_3 rfl hl (by decide) rfl (fun ls hl => ?_)
  refine lv_aload_n hx hb dX3_setPresent_4 rfl (lv_at hl 1 rfl) ?_
  refine lv_iload_n hx hb dX3_setPresent_5 rfl (lv_at hl 3 rfl) ?_
  refine lv_if_eq (tgt := 18) hx hb dX3_setPresent_6 (by decide) (fun c9 => absurd c9 (by decide)) (fun _ => ?_)
  refine lv_aload_n hx hb dX3_setPresent_9 rfl (lv_at hl 1 rfl) ?_
  refine va_get (D := D) (ci := 3) (v := .int 0) (C := RX3) (T := TX3) (N := 5) hx hb hts in_X3 hown hK hP 0 rfl rfl 2 (by decide) (hts _ q_105) (fun _ h9 => h9) rfl dX3_setPresent_10 ?_
  refine lv_iload_n hx hb dX3_setPresent_13 rfl (lv_at hl 0 rfl) ?_
  refine lv_ior hx hb dX3_setPresent_14 ?_
  refine lv_cst (v := 1) (by decide) ?_
  refine lv_goto (tgt := 26) hx hb dX3_setPresent_15 (by decide) ?_
  refine va_put (D := D) (ci := 3) (v := .int 1) (ty := .int) (C := RX3) (T := TX3) (N := 5) hx hb hts in_X3 tyX3 tyX3_ok nmX3 hown hK hP hD hS 0 rfl rfl 2 (by decide) (hts _ q_105) (fun _ h9 => h9) rfl (by decide +kernel) rfl rfl (Nat.le_of_ble_eq_true rfl) dX3_setPresent_26 (fun H locs hP hD hS => ?_)
  have hP : va_P D vwCl [(nho, .inr (3, [.int 1, .int 50, .int 1, .ref nhw, .ref nhs]))] H := hP
  have hD : va_D A [(nho, .inr (3, [.int 1, .int 50, .int 1, .ref nhw, .ref nhs]))] := hD
  refine W.widen (k := 0) (n := 0) (Nat.le_of_ble_eq_true rfl) (Nat.le_of_ble_eq_true rfl) ?_
  exact W.vret hx hb hr (fun t ht hW => ⟨⟨(), rfl, trivial, by rw [ht]; exact hP.sub [0] rfl, hD.sub [0] (by decide) rfl⟩, hS.F ht⟩) hS.2.2 dX3_setPresent_29
theorem dX3_admit_0 : decode cX3_admit 0 = .ok (.aload_n 0, 1) := by decide +kernel
theorem dX3_admit_1 : decode cX3_admit 1 = .ok (.getfield 22, 3) := by decide +kernel
theorem dX3_admit_4 : decode cX3_admit 4 = .ok (.istore_n 2, 1) := by decide +kernel
theorem dX3_admit_5 : decode cX3_admit 5 = .ok (.iload_n 2, 1) := by decide +kernel
theorem dX3_admit_6 : decode cX3_admit 6 = .ok (.bipush 12, 2) := by decide +kernel
theorem dX3_admit_8 : decode cX3_admit 8 = .ok (.if_icmp .ge 33, 3) := by decide +kernel
theorem dX3_admit_11 : decode cX3_admit 11 = .ok (.aload_n 0, 1) := by decide +kernel
theorem dX3_admit_12 : decode cX3_admit 12 = .ok (.getfield 15, 3) := by decide +kernel
theorem dX3_admit_15 : decode cX3_admit 15 = .ok (.iload_n 2, 1) := by decide +kernel
theorem dX3_admit_16 : decode cX3_admit 16 = .ok (.iload_n 1, 1) := by decide +kernel
theorem dX3_admit_17 : decode cX3_admit 17 = .ok (.iastore, 1) := by decide +kernel
theorem dX3_admit_18 : decode cX3_admit 18 = .ok (.aload_n 0, 1) := by decide +kernel
theorem dX3_admit_19 : decode cX3_admit 19 = .ok (.getfield 19, 3) := by decide +kernel
theorem dX3_admit_22 : decode cX3_admit 22 = .ok (.iload_n 2, 1) := by decide +kernel
theorem dX3_admit_23 : decode cX3_admit 23 = .ok (.iconst 0, 1) := by decide +kernel
theorem dX3_admit_24 : decode cX3_admit 24 = .ok (.iastore, 1) := by decide +kernel
theorem dX3_admit_25 : decode cX3_admit 25 = .ok (.aload_n 0, 1) := by decide +kernel
theorem dX3_admit_26 : decode cX3_admit 26 = .ok (.dup, 1) := by decide +kernel
theorem dX3_admit_27 : decode cX3_admit 27 = .ok (.getfield 22, 3) := by decide +kernel
theorem dX3_admit_30 : decode cX3_admit 30 = .ok (.iconst 1, 1) := by decide +kernel
theorem dX3_admit_31 : decode cX3_admit 31 = .ok (.iadd, 1) := by decide +kernel
theorem dX3_admit_32 : decode cX3_admit 32 = .ok (.putfield 22, 3) := by decide +kernel
theorem dX3_admit_35 : decode cX3_admit 35 = .ok (.aload_n 0, 1) := by decide +kernel
theorem dX3_admit_36 : decode cX3_admit 36 = .ok (.iload_n 2, 1) := by decide +kernel
theorem dX3_admit_37 : decode cX3_admit 37 = .ok (.iconst 1, 1) := by decide +kernel
theorem dX3_admit_38 : decode cX3_admit 38 = .ok (.invokevirtual 34, 3) := by decide +kernel
theorem dX3_admit_41 : decode cX3_admit 41 = .ok (.iload_n 2, 1) := by decide +kernel
theorem dX3_admit_42 : decode cX3_admit 42 = .ok (.ireturn, 1) := by decide +kernel
set_option maxRecDepth 100000 in
theorem q_439 : (.code yX3_setPresent cX3_setPresent 4 none) ∈ lw_all := List.mem_filter.mpr ⟨List.mem_of_getElem? (i := 439) (rfl), by decide +kernel⟩
set_option maxRecDepth 100000 in
theorem q_437 : (.instanceMethod yX3_setPresent) ∈ lw_all := List.mem_filter.mpr ⟨List.mem_of_getElem? (i := 437) (by decide +kernel), by decide +kernel⟩
set_option maxRecDepth 100000 in
theorem q_436 : (.methodLink RX3 34 yX3_setPresent) ∈ lw_all := List.mem_filter.mpr ⟨List.mem_of_getElem? (i := 436) (by decide +kernel), by decide +kernel⟩
set_option maxRecDepth 100000 in
theorem q_438 : (.selects RX3 yX3_setPresent yX3_setPresent) ∈ lw_all := List.mem_filter.mpr ⟨List.mem_of_getElem? (i := 438) (by decide +kernel), by decide +kernel⟩
set_option maxHeartbeats 4000000 in
set_option maxRecDepth 100000 in
theorem c_X3_admit (l : Launch) (D : va_G) (cI cQ cM cR : ClassId) (nho : Nat) (nhw : Nat) (nhs : Nat) (p0 : Int32) (sz : Nat) : Met l yX3_admit (ws_ yX3_admit cX3_admit 3 (some .int)) ({ frames := 1, cells := 0, slots := 0, locals := 23 }) (PW D cI cQ cM cR [.ref nho, .int p0] [(nho, .inr (3, [.int 0, .int 50, .int 0, .ref nhw, .ref nhs])), (nhw, .inl (cI, 12, .inl (fun _ => 0))), (nhs, .inl (cI, 12, .inl (fun _ => 0)))] sz) (va_Qi (fun (r : Int32) (_ : Unit) => r = 0) (fun (_ : Unit) (_ : State) => True) (va_A [(nho, .inr (3, [.int 0, .int 50, .int 0, .ref nhw, .ref nhs])), (nhw, .inl (cI, 12, .inl (fun _ => 0))), (nhs, .inl (cI, 12, .inl (fun _ => 0)))] sz)) 0 0 (va_A [(nho, .inr (3, [.int 0, .int 50, .int 0, .ref nhw, .ref nhs])), (nhw, .inl (cI, 12, .inl (fun _ => 0))), (nhs, .inl (cI, 12, .inl (fun _ => 0)))] sz) := by
  refine Met.ofW (cc := cX3_admit) (maxL := 3) (ret := (some .int)) (by decide) rfl ?_
  intro p e s m args below meth c s₁ B hml hv
  obtain ⟨rfl, hsz, hP, hK, hD0⟩ := hv
  have hx := B.exec
  have hb := B.bytes
  have hr := B.returns
  have hts : ∀ w ∈ lw_all, w.before _ s = true := fun w h => atoms_spec (ws := (ws_ yX3_admit cX3_admit 3 (some .int))) B.pre w (List.mem_cons_of_mem _ h)
  have hown : s.vm.findClass RX3 = some m.cls := findClass_of_methodNamed B.named
  have hlocks := B.notSynchronized
  subst hsz
  have hD := hD0.self (sz := s.heap.size)
  generalize hAe : va_A [(nho, .inr (3, [.int 0, .int 50, .int 0, .ref nhw, .ref nhs])), (nhw, .inl (cI, 12, .inl (fun _ => 0))), (nhs, .inl (cI, 12, .inl (fun _ => 0)))] s.heap.size = A at hD ⊢
  have hA : ∀ q : Nat, s.heap.size ≤ q → A q := fun q h => by rw [← hAe]; exact Or.inr h
  have hS : va_S A s.heap s.heap [] := va_S.rf
  have hP : va_P D vwCl [(nho, .inr (3, [.int 0, .int 50, .int 0, .ref nhw, .ref nhs])), (nhw, .inl (cI, 12, .inl (fun _ => 0))), (nhs, .inl (cI, 12, .inl (fun _ => 0)))] s.heap := hP
  have hl := lv_entry ([.ref nho, .int p0]) (n := 3) (Nat.le_of_ble_eq_true rfl)
  rw [lg_entry_eq]
  generalize (lg_sl ([.ref nho, .int p0]) ++ List.replicate (3 - (lg_sl ([.ref nho, .int p0])).length) Slot.unset).toArray = ls at hl ⊢
  have hl : lv_has ls 3 [(0, .ref nho), (1, .int p0)] := hl
  obtain ⟨H, hH⟩ : ∃ H : Heap, H = s.heap := ⟨_, rfl⟩
  rw [← hH] at hP
  have hS : va_S A s.heap H [] := by rw [hH]; exact hS
  rw [← hH]
  refine lv_aload_n hx hb dX3_admit_0 rfl (lv_at hl 0 rfl) ?_
  refine va_get (D := D) (ci := 3) (v := .int 0) (C := RX3) (T := TX3) (N := 5) hx hb hts in_X3 hown hK hP 0 rfl rfl 0 (by decide) (hts _ q_101) (fun _ h9 => h9) rfl dX3_admit_1 ?_
  refine lv_istore_n (lv' := [(2, .int 0), (0, .ref nho), (1, .int p0)]) hx hb dX3_admit_4 rfl hl (by decide) rfl (fun ls hl => ?_)
  refine lv_iload_n hx hb dX3_admit_5 rfl (lv_at hl 0 rfl) ?_
  refine lv_bipush (v := 12) hx hb dX3_admit_6 (by decide) ?_
  refine lv_icmp_ge (tgt := 41) hx hb dX3_admit_8 (by decide) (fun c9 => absurd c9 (by decide)) (fun _ => ?_)
  refine lv_aload_n hx hb dX3_admit_11 rfl (lv_at hl 1 rfl) ?_
  refine va_get (D := D) (ci := 3) (v := .ref nhw) (C := RX3) (T := TX3) (N := 5) hx hb hts in_X3 hown hK hP 0 rfl rfl 3 (by decide) (hts _ q_108) (fun _ h9 => h9) rfl dX3_admit_12 ?_
  refine lv_iload_n hx hb dX3_admit_15 rfl (lv_at hl 0 rfl) ?_
  refine lv_iload_n hx hb dX3_admit_16 rfl (lv_at hl 2 rfl) ?_
  refine va_iast hx hb hK hP hD hS 1 0 rfl rfl (i := 0) (by unfold vp_in; decide) dX3_admit_17 (fun H locs hP hD hS => ?_)
  have hP : va_P D vwCl [(nho, .inr (3, [.int 0, .int 50, .int 0, .ref nhw, .ref nhs])), (nhw, .inl (cI, 12, .inl (upd (fun _ => 0) 0 p0))), (nhs, .inl (cI, 12, .inl (fun _ => 0)))] H := hP
  have hD : va_D A [(nho, .inr (3, [.int 0, .int 50, .int 0, .ref nhw, .ref nhs])), (nhw, .inl (cI, 12, .inl (upd (fun _ => 0) 0 p0))), (nhs, .inl (cI, 12, .inl (fun _ => 0)))] := hD
  refine lv_aload_n hx hb dX3_admit_18 rfl (lv_at hl 1 rfl) ?_
  refine va_get (D := D) (ci := 3) (v := .ref nhs) (C := RX3) (T := TX3) (N := 5) hx hb hts in_X3 hown hK hP 0 rfl rfl 4 (by decide) (hts _ q_109) (fun _ h9 => h9) rfl dX3_admit_19 ?_
  refine lv_iload_n hx hb dX3_admit_22 rfl (lv_at hl 0 rfl) ?_
  refine lv_iconst (v := 0) hx hb dX3_admit_23 (by decide) ?_
  refine va_iast hx hb hK hP hD hS 2 0 rfl rfl (i := 0) (by unfold vp_in; decide) dX3_admit_24 (fun H locs hP hD hS => ?_)
  have hP : va_P D vwCl [(nho, .inr (3, [.int 0, .int 50, .int 0, .ref nhw, .ref nhs])), (nhw, .inl (cI, 12, .inl (upd (fun _ => 0) 0 p0))), (nhs, .inl (cI, 12, .inl (upd (fun _ => 0) 0 0)))] H := hP
  have hD : va_D A [(nho, .inr (3, [.int 0, .int 50, .int 0, .ref nhw, .ref nhs])), (nhw, .inl (cI, 12, .inl (upd (fun _ => 0) 0 p0))), (nhs, .inl (cI, 12, .inl (upd (fun _ => 0) 0 0)))] := hD
  refine lv_aload_n hx hb dX3_admit_25 rfl (lv_at hl 1 rfl) ?_
  refine lv_dup hx hb dX3_admit_26 rfl ?_
  refine va_get (D := D) (ci := 3) (v := .int 0) (C := RX3) (T := TX3) (N := 5) hx hb hts in_X3 hown hK hP 0 rfl rfl 0 (by decide) (hts _ q_101) (fun _ h9 => h9) rfl dX3_admit_27 ?_
  refine lv_iconst (v := 1) hx hb dX3_admit_30 (by decide) ?_
  refine lv_iadd hx hb dX3_admit_31 ?_
  refine lv_cst (v := 1) (by decide) ?_
  refine va_put (D := D) (ci := 3) (v := .int 1) (ty := .int) (C := RX3) (T := TX3) (N := 5) hx hb hts in_X3 tyX3 tyX3_ok nmX3 hown hK hP hD hS 0 rfl rfl 0 (by decide) (hts _ q_101) (fun _ h9 => h9) rfl (by decide +kernel) rfl rfl (Nat.le_of_ble_eq_true rfl) dX3_admit_32 (fun H locs hP hD hS => ?_)
  have hP : va_P D vwCl [(nho, .inr (3, [.int 1, .int 50, .int 0, .ref nhw, .ref nhs])), (nhw, .inl (cI, 12, .inl (upd (fun _ => 0) 0 p0))), (nhs, .inl (cI, 12, .inl (upd (fun _ => 0) 0 0)))] H := hP
  have hD : va_D A [(nho, .inr (3, [.int 1, .int 50, .int 0, .ref nhw, .ref nhs])), (nhw, .inl (cI, 12, .inl (upd (fun _ => 0) 0 p0))), (nhs, .inl (cI, 12, .inl (upd (fun _ => 0) 0 0)))] := hD
  refine lv_aload_n hx hb dX3_admit_35 rfl (lv_at hl 1 rfl) ?_
  refine lv_iload_n hx hb dX3_admit_36 rfl (lv_at hl 0 rfl) ?_
  refine lv_iconst (v := 1) hx hb dX3_admit_37 (by decide) ?_
  have hFc := va_free (wc := [(nho, .inr (3, [.int 1, .int 50, .int 0, .ref nhw, .ref nhs]))]) hD hS hA [0] rfl
  refine va_callv (va_runV (As := [.int 0, .int 1]) (rest := []) ⟨hx, hb, hml, hown, hts⟩ (c_X3_setPresent l D cI cQ cM cR nho nhw nhs H.size) (cwV 2 hts (gV q_436 q_437 q_438 q_67 q_439) rfl rfl rfl (by decide +kernel) ⟨Nat.le_of_ble_eq_true rfl, Nat.le_of_ble_eq_true rfl⟩) ⟨PW_blind, va_recv hK hP (ci := 3) (q0 := 0) rfl rfl, PW_of hK (hP.sub [0] rfl) (hD.sub [0] (by decide) rfl)⟩ rfl rfl hl.1 rfl (lv_room (Nat.le_of_ble_eq_true rfl)) dX3_admit_38 ⟨Nat.le_of_ble_eq_true rfl, Nat.le_of_ble_eq_true rfl⟩) hS (fun q _ h => hFc q h) hFc (fun u t H1 locs ht hvm hw hB hz1 hk1 hS => ?_)
  obtain ⟨hP1, hD1⟩ := hB
  rw [ht] at hP1
  obtain ⟨hP, hD⟩ := va_join (wr := [(nhw, .inl (cI, 12, .inl (upd (fun _ => 0) 0 p0))), (nhs, .inl (cI, 12, .inl (upd (fun _ => 0) 0 0)))]) (w1 := [(nho, .inr (3, [.int 1, .int 50, .int 1, .ref nhw, .ref nhs]))]) hP hD [0] [1, 2] rfl rfl (by decide) (by decide) hk1 hFc hP1 hD1
  generalize H1 = H at hP hS ⊢
  have hP : va_P D vwCl [(nhw, .inl (cI, 12, .inl (upd (fun _ => 0) 0 p0))), (nhs, .inl (cI, 12, .inl (upd (fun _ => 0) 0 0))), (nho, .inr (3, [.int 1, .int 50, .int 1, .ref nhw, .ref nhs]))] H := hP
  have hD : va_D A [(nhw, .inl (cI, 12, .inl (upd (fun _ => 0) 0 p0))), (nhs, .inl (cI, 12, .inl (upd (fun _ => 0) 0 0))), (nho, .inr (3, [.int 1, .int 50, .int 1, .ref nhw, .ref nhs]))] := hD
  refine lv_iload_n hx hb dX3_admit_41 rfl (lv_at hl 0 rfl) ?_
  refine W.widen (k := 0) (n := 0) (Nat.le_of_ble_eq_true rfl) (Nat.le_of_ble_eq_true rfl) ?_
  exact W.iret hx hb hr (fun t ht hW => ⟨⟨_, (), rfl, rfl, trivial⟩, hS.F ht⟩) hS.2.2 dX3_admit_42
theorem dX11_delegate_0 : decode cX11_delegate 0 = .ok (.iload_n 1, 1) := by decide +kernel
theorem dX11_delegate_1 : decode cX11_delegate 1 = .ok (.iconst 1, 1) := by decide +kernel
theorem dX11_delegate_2 : decode cX11_delegate 2 = .ok (.if_icmp .lt 9, 3) := by decide +kernel
theorem dX11_delegate_5 : decode cX11_delegate 5 = .ok (.iload_n 1, 1) := by decide +kernel
theorem dX11_delegate_6 : decode cX11_delegate 6 = .ok (.bipush 9, 2) := by decide +kernel
theorem dX11_delegate_8 : decode cX11_delegate 8 = .ok (.if_icmp .le 6, 3) := by decide +kernel
theorem dX11_delegate_11 : decode cX11_delegate 11 = .ok (.bipush (-2), 2) := by decide +kernel
theorem dX11_delegate_13 : decode cX11_delegate 13 = .ok (.ireturn, 1) := by decide +kernel
theorem dX11_delegate_14 : decode cX11_delegate 14 = .ok (.aload_n 0, 1) := by decide +kernel
theorem dX11_delegate_15 : decode cX11_delegate 15 = .ok (.getfield 12, 3) := by decide +kernel
theorem dX11_delegate_18 : decode cX11_delegate 18 = .ok (.getfield 35, 3) := by decide +kernel
theorem dX11_delegate_21 : decode cX11_delegate 21 = .ok (.getfield 39, 3) := by decide +kernel
theorem dX11_delegate_24 : decode cX11_delegate 24 = .ok (.bipush 12, 2) := by decide +kernel
theorem dX11_delegate_26 : decode cX11_delegate 26 = .ok (.if_icmp .lt 6, 3) := by decide +kernel
theorem dX11_delegate_32 : decode cX11_delegate 32 = .ok (.aload_n 0, 1) := by decide +kernel
theorem dX11_delegate_33 : decode cX11_delegate 33 = .ok (.getfield 12, 3) := by decide +kernel
theorem dX11_delegate_36 : decode cX11_delegate 36 = .ok (.getfield 35, 3) := by decide +kernel
theorem dX11_delegate_39 : decode cX11_delegate 39 = .ok (.iload_n 1, 1) := by decide +kernel
theorem dX11_delegate_40 : decode cX11_delegate 40 = .ok (.invokevirtual 45, 3) := by decide +kernel
theorem dX11_delegate_43 : decode cX11_delegate 43 = .ok (.ireturn, 1) := by decide +kernel
set_option maxRecDepth 100000 in
theorem q_435 : (.code yX3_admit cX3_admit 3 (some .int)) ∈ lw_all := List.mem_filter.mpr ⟨List.mem_of_getElem? (i := 435) (rfl), by decide +kernel⟩
set_option maxRecDepth 100000 in
theorem q_433 : (.instanceMethod yX3_admit) ∈ lw_all := List.mem_filter.mpr ⟨List.mem_of_getElem? (i := 433) (by decide +kernel), by decide +kernel⟩
set_option maxRecDepth 100000 in
theorem q_432 : (.methodLink RX11 45 yX3_admit) ∈ lw_all := List.mem_filter.mpr ⟨List.mem_of_getElem? (i := 432) (by decide +kernel), by decide +kernel⟩
set_option maxRecDepth 100000 in
theorem q_434 : (.selects RX3 yX3_admit yX3_admit) ∈ lw_all := List.mem_filter.mpr ⟨List.mem_of_getElem? (i := 434) (by decide +kernel), by decide +kernel⟩
set_option maxHeartbeats 4000000 in
set_option maxRecDepth 100000 in
theorem c_X11_delegate (l : Launch) (D : va_G) (cI cQ cM cR : ClassId) (x0 : Nat) (nme : Nat) (sme : Nat) (xr : Nat) (xs : Nat) (nho : Nat) (ndk : Nat) (nsh : Nat) (nmi : Nat) (nba : Nat) (nde : Nat) (nbu : Nat) (nhw : Nat) (nhs : Nat) (p0 : Int32) (sz : Nat) : Met l yX11_delegate (ws_ yX11_delegate cX11_delegate 2 (some .int)) ({ frames := 2, cells := 0, slots := 0, locals := 45 }) (PW D cI cQ cM cR [.ref x0, .int p0] [(x0, .inr (11, [.ref nme, .ref sme, .int 0, .ref xr, .ref xs])), (nme, .inr (4, [.ref nho, .ref ndk, .ref nsh, .ref nmi, .ref nba, .ref nde, .ref nbu, .int 1, .int 0, .null, .int 0, .int 0, .int 0])), (nho, .inr (3, [.int 0, .int 50, .int 0, .ref nhw, .ref nhs])), (nhw, .inl (cI, 12, .inl (fun _ => 0))), (nhs, .inl (cI, 12, .inl (fun _ => 0)))] sz) (va_Qi (fun (r : Int32) (_ : Unit) => r = (sp_delegate p0)) (fun (_ : Unit) (_ : State) => True) (va_A [(x0, .inr (11, [.ref nme, .ref sme, .int 0, .ref xr, .ref xs])), (nme, .inr (4, [.ref nho, .ref ndk, .ref nsh, .ref nmi, .ref nba, .ref nde, .ref nbu, .int 1, .int 0, .null, .int 0, .int 0, .int 0])), (nho, .inr (3, [.int 0, .int 50, .int 0, .ref nhw, .ref nhs])), (nhw, .inl (cI, 12, .inl (fun _ => 0))), (nhs, .inl (cI, 12, .inl (fun _ => 0)))] sz)) 0 0 (va_A [(x0, .inr (11, [.ref nme, .ref sme, .int 0, .ref xr, .ref xs])), (nme, .inr (4, [.ref nho, .ref ndk, .ref nsh, .ref nmi, .ref nba, .ref nde, .ref nbu, .int 1, .int 0, .null, .int 0, .int 0, .int 0])), (nho, .inr (3, [.int 0, .int 50, .int 0, .ref nhw, .ref nhs])), (nhw, .inl (cI, 12, .inl (fun _ => 0))), (nhs, .inl (cI, 12, .inl (fun _ => 0)))] sz) := by
  refine Met.ofW (cc := cX11_delegate) (maxL := 2) (ret := (some .int)) (by decide) rfl ?_
  intro p e s m args below meth c s₁ B hml hv
  obtain ⟨rfl, hsz, hP, hK, hD0⟩ := hv
  have hx := B.exec
  have hb := B.bytes
  have hr := B.returns
  have hts : ∀ w ∈ lw_all, w.before _ s = true := fun w h => atoms_spec (ws := (ws_ yX11_delegate cX11_delegate 2 (some .int))) B.pre w (List.mem_cons_of_mem _ h)
  have hown : s.vm.findClass RX11 = some m.cls := findClass_of_methodNamed B.named
  have hlocks := B.notSynchronized
  subst hsz
  have hD := hD0.self (sz := s.heap.size)
  generalize hAe : va_A [(x0, .inr (11, [.ref nme, .ref sme, .int 0, .ref xr, .ref xs])), (nme, .inr (4, [.ref nho, .ref ndk, .ref nsh, .ref nmi, .ref nba, .ref nde, .ref nbu, .int 1, .int 0, .null, .int 0, .int 0, .int 0])), (nho, .inr (3, [.int 0, .int 50, .int 0, .ref nhw, .ref nhs])), (nhw, .inl (cI, 12, .inl (fun _ => 0))), (nhs, .inl (cI, 12, .inl (fun _ => 0)))] s.heap.size = A at hD ⊢
  have hA : ∀ q : Nat, s.heap.size ≤ q → A q := fun q h => by rw [← hAe]; exact Or.inr h
  have hS : va_S A s.heap s.heap [] := va_S.rf
  have hP : va_P D vwCl [(x0, .inr (11, [.ref nme, .ref sme, .int 0, .ref xr, .ref xs])), (nme, .inr (4, [.ref nho, .ref ndk, .ref nsh, .ref nmi, .ref nba, .ref nde, .ref nbu, .int 1, .int 0, .null, .int 0, .int 0, .int 0])), (nho, .inr (3, [.int 0, .int 50, .int 0, .ref nhw, .ref nhs])), (nhw, .inl (cI, 12, .inl (fun _ => 0))), (nhs, .inl (cI, 12, .inl (fun _ => 0)))] s.heap := hP
  have hl := lv_entry ([.ref x0, .int p0]) (n := 2) (Nat.le_of_ble_eq_true rfl)
  rw [lg_entry_eq]
  generalize (lg_sl ([.ref x0, .int p0]) ++ List.replicate (2 - (lg_sl ([.ref x0, .int p0])).length) Slot.unset).toArray = ls at hl ⊢
  have hl : lv_has ls 2 [(0, .ref x0), (1, .int p0)] := hl
  obtain ⟨H, hH⟩ : ∃ H : Heap, H = s.heap := ⟨_, rfl⟩
  rw [← hH] at hP
  have hS : va_S A s.heap H [] := by rw [hH]; exact hS
  rw [← hH]
  refine lv_iload_n hx hb dX11_delegate_0 rfl (lv_at hl 1 rfl) ?_
  refine lv_iconst (v := 1) hx hb dX11_delegate_1 (by decide) ?_
  refine lv_icmp_lt (tgt := 11) hx hb dX11_delegate_2 (by decide) (fun c_1 => ?_) (fun c_1 => ?_)
  · refine lv_bipush (v := (-2)) hx hb dX11_delegate_11 (by decide) ?_
    refine W.widen (k := 0) (n := 0) (Nat.le_of_ble_eq_true rfl) (Nat.le_of_ble_eq_true rfl) ?_
    exact W.iret hx hb hr (fun t ht hW => ⟨⟨_, (), rfl, by rw [sp_delegate, if_pos (btw_lt 9 c_1)], trivial⟩, hS.F ht⟩) hS.2.2 dX11_delegate_13
  · refine lv_iload_n hx hb dX11_delegate_5 rfl (lv_at hl 1 rfl) ?_
    refine lv_bipush (v := 9) hx hb dX11_delegate_6 (by decide) ?_
    refine lv_icmp_le (tgt := 14) hx hb dX11_delegate_8 (by decide) (fun c_2 => ?_) (fun c_2 => ?_)
    · refine lv_aload_n hx hb dX11_delegate_14 rfl (lv_at hl 0 rfl) ?_
      refine va_get (D := D) (ci := 11) (v := .ref nme) (C := RX11) (T := TX11) (N := 5) hx hb hts in_X11 hown hK hP 0 rfl rfl 0 (by decide) (hts _ q_412) (fun _ h9 => h9) rfl dX11_delegate_15 ?_
      refine va_get (D := D) (ci := 4) (v := .ref nho) (C := RX4) (T := TX4) (N := 13) hx hb hts in_X4 hown hK hP 1 rfl rfl 0 (by decide) (hts _ q_338) (fun _ h9 => h9) rfl dX11_delegate_18 ?_
      refine va_get (D := D) (ci := 3) (v := .int 0) (C := RX3) (T := TX3) (N := 5) hx hb hts in_X3 hown hK hP 2 rfl rfl 0 (by decide) (hts _ q_102) (fun _ h9 => h9) rfl dX11_delegate_21 ?_
      refine lv_bipush (v := 12) hx hb dX11_delegate_24 (by decide) ?_
      refine lv_icmp_lt (tgt := 32) hx hb dX11_delegate_26 (by decide) (fun _ => ?_) (fun c9 => absurd (by decide) c9)
      refine lv_aload_n hx hb dX11_delegate_32 rfl (lv_at hl 0 rfl) ?_
      refine va_get (D := D) (ci := 11) (v := .ref nme) (C := RX11) (T := TX11) (N := 5) hx hb hts in_X11 hown hK hP 0 rfl rfl 0 (by decide) (hts _ q_412) (fun _ h9 => h9) rfl dX11_delegate_33 ?_
      refine va_get (D := D) (ci := 4) (v := .ref nho) (C := RX4) (T := TX4) (N := 13) hx hb hts in_X4 hown hK hP 1 rfl rfl 0 (by decide) (hts _ q_338) (fun _ h9 => h9) rfl dX11_delegate_36 ?_
      refine lv_iload_n hx hb dX11_delegate_39 rfl (lv_at hl 1 rfl) ?_
      have hFc := va_free (wc := [(nho, .inr (3, [.int 0, .int 50, .int 0, .ref nhw, .ref nhs])), (nhw, .inl (cI, 12, .inl (fun _ => 0))), (nhs, .inl (cI, 12, .inl (fun _ => 0)))]) hD hS hA [2, 3, 4] rfl
      refine va_calli (va_runV (As := [.int p0]) (rest := []) ⟨hx, hb, hml, hown, hts⟩ (c_X3_admit l D cI cQ cM cR nho nhw nhs p0 H.size) (cwV 1 hts (gV q_432 q_433 q_434 q_67 q_435) rfl rfl rfl (by decide +kernel) ⟨Nat.le_of_ble_eq_true rfl, Nat.le_of_ble_eq_true rfl⟩) ⟨PW_blind, va_recv hK hP (ci := 3) (q0 := 2) rfl rfl, PW_of hK (hP.sub [2, 3, 4] rfl) (hD.sub [2, 3, 4] (by decide) rfl)⟩ rfl rfl hl.1 rfl (lv_room (Nat.le_of_ble_eq_true rfl)) dX11_delegate_40 ⟨Nat.le_of_ble_eq_true rfl, Nat.le_of_ble_eq_true rfl⟩) hS (fun q _ h => hFc q h) hFc (fun r_3 u t H1 locs ht hvm hw hB hz1 hk1 hS => ?_)
      have hP1 : va_P D vwCl [] H1 := va_P_nil
      have hD1 : va_D (va_A [(nho, .inr (3, [.int 0, .int 50, .int 0, .ref nhw, .ref nhs])), (nhw, .inl (cI, 12, .inl (fun _ => 0))), (nhs, .inl (cI, 12, .inl (fun _ => 0)))] H.size) [] := va_D_nil
      obtain ⟨hP, hD⟩ := va_join (wr := [(x0, .inr (11, [.ref nme, .ref sme, .int 0, .ref xr, .ref xs])), (nme, .inr (4, [.ref nho, .ref ndk, .ref nsh, .ref nmi, .ref nba, .ref nde, .ref nbu, .int 1, .int 0, .null, .int 0, .int 0, .int 0]))]) (w1 := []) hP hD [2, 3, 4] [0, 1] rfl rfl (by decide) (by decide) hk1 hFc hP1 hD1
      generalize H1 = H at hP hS ⊢
      have hP : va_P D vwCl [(x0, .inr (11, [.ref nme, .ref sme, .int 0, .ref xr, .ref xs])), (nme, .inr (4, [.ref nho, .ref ndk, .ref nsh, .ref nmi, .ref nba, .ref nde, .ref nbu, .int 1, .int 0, .null, .int 0, .int 0, .int 0]))] H := hP
      have hD : va_D A [(x0, .inr (11, [.ref nme, .ref sme, .int 0, .ref xr, .ref xs])), (nme, .inr (4, [.ref nho, .ref ndk, .ref nsh, .ref nmi, .ref nba, .ref nde, .ref nbu, .int 1, .int 0, .null, .int 0, .int 0, .int 0]))] := hD
      obtain rfl : r_3 = 0 := hw
      refine W.widen (k := 0) (n := 0) (Nat.le_of_ble_eq_true rfl) (Nat.le_of_ble_eq_true rfl) ?_
      exact W.iret hx hb hr (fun t ht hW => ⟨⟨_, (), rfl, by rw [sp_delegate, if_neg (btw_in c_1 (Int32.not_lt.mpr c_2))], trivial⟩, hS.F ht⟩) hS.2.2 dX11_delegate_43
    · refine lv_bipush (v := (-2)) hx hb dX11_delegate_11 (by decide) ?_
      refine W.widen (k := 0) (n := 0) (Nat.le_of_ble_eq_true rfl) (Nat.le_of_ble_eq_true rfl) ?_
      exact W.iret hx hb hr (fun t ht hW => ⟨⟨_, (), rfl, by rw [sp_delegate, if_pos (btw_gt 1 (i_nle c_2))], trivial⟩, hS.F ht⟩) hS.2.2 dX11_delegate_13
theorem dX11_quorum_0 : decode cX11_quorum 0 = .ok (.iload_n 1, 1) := by decide +kernel
theorem dX11_quorum_1 : decode cX11_quorum 1 = .ok (.ifCond .lt 9, 3) := by decide +kernel
theorem dX11_quorum_4 : decode cX11_quorum 4 = .ok (.iload_n 1, 1) := by decide +kernel
theorem dX11_quorum_5 : decode cX11_quorum 5 = .ok (.bipush 100, 2) := by decide +kernel
theorem dX11_quorum_7 : decode cX11_quorum 7 = .ok (.if_icmp .le 6, 3) := by decide +kernel
theorem dX11_quorum_10 : decode cX11_quorum 10 = .ok (.bipush (-2), 2) := by decide +kernel
theorem dX11_quorum_12 : decode cX11_quorum 12 = .ok (.ireturn, 1) := by decide +kernel
theorem dX11_quorum_13 : decode cX11_quorum 13 = .ok (.aload_n 0, 1) := by decide +kernel
theorem dX11_quorum_14 : decode cX11_quorum 14 = .ok (.getfield 12, 3) := by decide +kernel
theorem dX11_quorum_17 : decode cX11_quorum 17 = .ok (.getfield 35, 3) := by decide +kernel
theorem dX11_quorum_20 : decode cX11_quorum 20 = .ok (.getfield 64, 3) := by decide +kernel
theorem dX11_quorum_23 : decode cX11_quorum 23 = .ok (.istore_n 2, 1) := by decide +kernel
theorem dX11_quorum_24 : decode cX11_quorum 24 = .ok (.aload_n 0, 1) := by decide +kernel
theorem dX11_quorum_25 : decode cX11_quorum 25 = .ok (.getfield 12, 3) := by decide +kernel
theorem dX11_quorum_28 : decode cX11_quorum 28 = .ok (.getfield 35, 3) := by decide +kernel
theorem dX11_quorum_31 : decode cX11_quorum 31 = .ok (.iload_n 1, 1) := by decide +kernel
theorem dX11_quorum_32 : decode cX11_quorum 32 = .ok (.putfield 64, 3) := by decide +kernel
theorem dX11_quorum_35 : decode cX11_quorum 35 = .ok (.iload_n 2, 1) := by decide +kernel
theorem dX11_quorum_36 : decode cX11_quorum 36 = .ok (.ireturn, 1) := by decide +kernel
set_option maxRecDepth 100000 in
theorem q_104 : (.fieldLink RX11 64 "AssemblyChair$House" "percentage" "I") ∈ lw_all := List.mem_filter.mpr ⟨List.mem_of_getElem? (i := 104) (by decide +kernel), by decide +kernel⟩
set_option maxHeartbeats 4000000 in
set_option maxRecDepth 100000 in
theorem c_X11_quorum (l : Launch) (D : va_G) (cI cQ cM cR : ClassId) (x0 : Nat) (nme : Nat) (sme : Nat) (xr : Nat) (xs : Nat) (nho : Nat) (ndk : Nat) (nsh : Nat) (nmi : Nat) (nba : Nat) (nde : Nat) (nbu : Nat) (nhw : Nat) (nhs : Nat) (p0 : Int32) (sz : Nat) : Met l yX11_quorum (ws_ yX11_quorum cX11_quorum 3 (some .int)) ({ frames := 0, cells := 0, slots := 0, locals := 0 }) (PW D cI cQ cM cR [.ref x0, .int p0] [(x0, .inr (11, [.ref nme, .ref sme, .int 0, .ref xr, .ref xs])), (nme, .inr (4, [.ref nho, .ref ndk, .ref nsh, .ref nmi, .ref nba, .ref nde, .ref nbu, .int 1, .int 0, .null, .int 0, .int 0, .int 0])), (nho, .inr (3, [.int 0, .int 50, .int 0, .ref nhw, .ref nhs]))] sz) (va_Qi (fun (r : Int32) (_ : Unit) => r = (sp_quorum p0)) (fun (_ : Unit) (_ : State) => True) (va_A [(x0, .inr (11, [.ref nme, .ref sme, .int 0, .ref xr, .ref xs])), (nme, .inr (4, [.ref nho, .ref ndk, .ref nsh, .ref nmi, .ref nba, .ref nde, .ref nbu, .int 1, .int 0, .null, .int 0, .int 0, .int 0])), (nho, .inr (3, [.int 0, .int 50, .int 0, .ref nhw, .ref nhs]))] sz)) 0 0 (va_A [(x0, .inr (11, [.ref nme, .ref sme, .int 0, .ref xr, .ref xs])), (nme, .inr (4, [.ref nho, .ref ndk, .ref nsh, .ref nmi, .ref nba, .ref nde, .ref nbu, .int 1, .int 0, .null, .int 0, .int 0, .int 0])), (nho, .inr (3, [.int 0, .int 50, .int 0, .ref nhw, .ref nhs]))] sz) := by
  refine Met.ofW (cc := cX11_quorum) (maxL := 3) (ret := (some .int)) (by decide) rfl ?_
  intro p e s m args below meth c s₁ B hml hv
  obtain ⟨rfl, hsz, hP, hK, hD0⟩ := hv
  have hx := B.exec
  have hb := B.bytes
  have hr := B.returns
  have hts : ∀ w ∈ lw_all, w.before _ s = true := fun w h => atoms_spec (ws := (ws_ yX11_quorum cX11_quorum 3 (some .int))) B.pre w (List.mem_cons_of_mem _ h)
  have hown : s.vm.findClass RX11 = some m.cls := findClass_of_methodNamed B.named
  have hlocks := B.notSynchronized
  subst hsz
  have hD := hD0.self (sz := s.heap.size)
  generalize hAe : va_A [(x0, .inr (11, [.ref nme, .ref sme, .int 0, .ref xr, .ref xs])), (nme, .inr (4, [.ref nho, .ref ndk, .ref nsh, .ref nmi, .ref nba, .ref nde, .ref nbu, .int 1, .int 0, .null, .int 0, .int 0, .int 0])), (nho, .inr (3, [.int 0, .int 50, .int 0, .ref nhw, .ref nhs]))] s.heap.size = A at hD ⊢
  have hA : ∀ q : Nat, s.heap.size ≤ q → A q := fun q h => by rw [← hAe]; exact Or.inr h
  have hS : va_S A s.heap s.heap [] := va_S.rf
  have hP : va_P D vwCl [(x0, .inr (11, [.ref nme, .ref sme, .int 0, .ref xr, .ref xs])), (nme, .inr (4, [.ref nho, .ref ndk, .ref nsh, .ref nmi, .ref nba, .ref nde, .ref nbu, .int 1, .int 0, .null, .int 0, .int 0, .int 0])), (nho, .inr (3, [.int 0, .int 50, .int 0, .ref nhw, .ref nhs]))] s.heap := hP
  have hl := lv_entry ([.ref x0, .int p0]) (n := 3) (Nat.le_of_ble_eq_true rfl)
  rw [lg_entry_eq]
  generalize (lg_sl ([.ref x0, .int p0]) ++ List.replicate (3 - (lg_sl ([.ref x0, .int p0])).length) Slot.unset).toArray = ls at hl ⊢
  have hl : lv_has ls 3 [(0, .ref x0), (1, .int p0)] := hl
  obtain ⟨H, hH⟩ : ∃ H : Heap, H = s.heap := ⟨_, rfl⟩
  rw [← hH] at hP
  have hS : va_S A s.heap H [] := by rw [hH]; exact hS
  rw [← hH]
  refine lv_iload_n hx hb dX11_quorum_0 rfl (lv_at hl 1 rfl) ?_
  refine lv_if_lt (tgt := 10) hx hb dX11_quorum_1 (by decide) (fun c_1 => ?_) (fun c_1 => ?_)
  · refine lv_bipush (v := (-2)) hx hb dX11_quorum_10 (by decide) ?_
    refine W.widen (k := 0) (n := 0) (Nat.le_of_ble_eq_true rfl) (Nat.le_of_ble_eq_true rfl) ?_
    exact W.iret hx hb hr (fun t ht hW => ⟨⟨_, (), rfl, by rw [sp_quorum, if_pos (btw_lt 100 c_1)], trivial⟩, hS.F ht⟩) hS.2.2 dX11_quorum_12
  · refine lv_iload_n hx hb dX11_quorum_4 rfl (lv_at hl 1 rfl) ?_
    refine lv_bipush (v := 100) hx hb dX11_quorum_5 (by decide) ?_
    refine lv_icmp_le (tgt := 13) hx hb dX11_quorum_7 (by decide) (fun c_2 => ?_) (fun c_2 => ?_)
    · refine lv_aload_n hx hb dX11_quorum_13 rfl (lv_at hl 0 rfl) ?_
      refine va_get (D := D) (ci := 11) (v := .ref nme) (C := RX11) (T := TX11) (N := 5) hx hb hts in_X11 hown hK hP 0 rfl rfl 0 (by decide) (hts _ q_412) (fun _ h9 => h9) rfl dX11_quorum_14 ?_
      refine va_get (D := D) (ci := 4) (v := .ref nho) (C := RX4) (T := TX4) (N := 13) hx hb hts in_X4 hown hK hP 1 rfl rfl 0 (by decide) (hts _ q_338) (fun _ h9 => h9) rfl dX11_quorum_17 ?_
      refine va_get (D := D) (ci := 3) (v := .int 50) (C := RX3) (T := TX3) (N := 5) hx hb hts in_X3 hown hK hP 2 rfl rfl 1 (by decide) (hts _ q_104) (fun _ h9 => h9) rfl dX11_quorum_20 ?_
      refine lv_istore_n (lv' := [(2, .int 50), (0, .ref x0), (1, .int p0)]) hx hb dX11_quorum_23 rfl hl (by decide) rfl (fun ls hl => ?_)
      refine lv_aload_n hx hb dX11_quorum_24 rfl (lv_at hl 1 rfl) ?_
      refine va_get (D := D) (ci := 11) (v := .ref nme) (C := RX11) (T := TX11) (N := 5) hx hb hts in_X11 hown hK hP 0 rfl rfl 0 (by decide) (hts _ q_412) (fun _ h9 => h9) rfl dX11_quorum_25 ?_
      refine va_get (D := D) (ci := 4) (v := .ref nho) (C := RX4) (T := TX4) (N := 13) hx hb hts in_X4 hown hK hP 1 rfl rfl 0 (by decide) (hts _ q_338) (fun _ h9 => h9) rfl dX11_quorum_28 ?_
      refine lv_iload_n hx hb dX11_quorum_31 rfl (lv_at hl 2 rfl) ?_
      refine va_put (D := D) (ci := 3) (v := .int p0) (ty := .int) (C := RX3) (T := TX3) (N := 5) hx hb hts in_X3 tyX3 tyX3_ok nmX3 hown hK hP hD hS 2 rfl rfl 1 (by decide) (hts _ q_104) (fun _ h9 => h9) rfl (by decide +kernel) rfl rfl (Nat.le_of_ble_eq_true rfl) dX11_quorum_32 (fun H locs hP hD hS => ?_)
      have hP : va_P D vwCl [(x0, .inr (11, [.ref nme, .ref sme, .int 0, .ref xr, .ref xs])), (nme, .inr (4, [.ref nho, .ref ndk, .ref nsh, .ref nmi, .ref nba, .ref nde, .ref nbu, .int 1, .int 0, .null, .int 0, .int 0, .int 0])), (nho, .inr (3, [.int 0, .int p0, .int 0, .ref nhw, .ref nhs]))] H := hP
      have hD : va_D A [(x0, .inr (11, [.ref nme, .ref sme, .int 0, .ref xr, .ref xs])), (nme, .inr (4, [.ref nho, .ref ndk, .ref nsh, .ref nmi, .ref nba, .ref nde, .ref nbu, .int 1, .int 0, .null, .int 0, .int 0, .int 0])), (nho, .inr (3, [.int 0, .int p0, .int 0, .ref nhw, .ref nhs]))] := hD
      refine lv_iload_n hx hb dX11_quorum_35 rfl (lv_at hl 0 rfl) ?_
      refine W.widen (k := 0) (n := 0) (Nat.le_of_ble_eq_true rfl) (Nat.le_of_ble_eq_true rfl) ?_
      exact W.iret hx hb hr (fun t ht hW => ⟨⟨_, (), rfl, by rw [sp_quorum, if_neg (btw_in c_1 (Int32.not_lt.mpr c_2))], trivial⟩, hS.F ht⟩) hS.2.2 dX11_quorum_36
    · refine lv_bipush (v := (-2)) hx hb dX11_quorum_10 (by decide) ?_
      refine W.widen (k := 0) (n := 0) (Nat.le_of_ble_eq_true rfl) (Nat.le_of_ble_eq_true rfl) ?_
      exact W.iret hx hb hr (fun t ht hW => ⟨⟨_, (), rfl, by rw [sp_quorum, if_pos (btw_gt 0 (i_nle c_2))], trivial⟩, hS.F ht⟩) hS.2.2 dX11_quorum_12
theorem dX11_isClause_0 : decode cX11_isClause 0 = .ok (.iload_n 0, 1) := by decide +kernel
theorem dX11_isClause_1 : decode cX11_isClause 1 = .ok (.ifCond .lt 13, 3) := by decide +kernel
theorem dX11_isClause_4 : decode cX11_isClause 4 = .ok (.iload_n 0, 1) := by decide +kernel
theorem dX11_isClause_5 : decode cX11_isClause 5 = .ok (.bipush 99, 2) := by decide +kernel
theorem dX11_isClause_7 : decode cX11_isClause 7 = .ok (.if_icmp .gt 7, 3) := by decide +kernel
theorem dX11_isClause_10 : decode cX11_isClause 10 = .ok (.iconst 1, 1) := by decide +kernel
theorem dX11_isClause_11 : decode cX11_isClause 11 = .ok (.goto 4, 3) := by decide +kernel
theorem dX11_isClause_14 : decode cX11_isClause 14 = .ok (.iconst 0, 1) := by decide +kernel
theorem dX11_isClause_15 : decode cX11_isClause 15 = .ok (.ireturn, 1) := by decide +kernel
set_option maxHeartbeats 4000000 in
set_option maxRecDepth 100000 in
theorem c_X11_isClause (l : Launch) (D : va_G) (cI cQ cM cR : ClassId) (p0 : Int32) : Met l yX11_isClause (ws_ yX11_isClause cX11_isClause 1 (some .boolean)) ({ frames := 0, cells := 0, slots := 0, locals := 0 }) (PP D cI cQ cM cR [.int p0] []) (QP (some (.int (btw p0 0 99)))) 0 0 (fun _ => False) := by
  refine Met.ofW (cc := cX11_isClause) (maxL := 1) (ret := (some .boolean)) (by decide) rfl ?_
  intro p e s m args below meth c s₁ B hml hv
  obtain ⟨rfl, hP, hK⟩ := hv
  have hx := B.exec
  have hb := B.bytes
  have hr := B.returns
  have hts : ∀ w ∈ lw_all, w.before _ s = true := fun w h => atoms_spec (ws := (ws_ yX11_isClause cX11_isClause 1 (some .boolean))) B.pre w (List.mem_cons_of_mem _ h)
  have hown : s.vm.findClass RX11 = some m.cls := findClass_of_methodNamed B.named
  have hlocks := B.notSynchronized
  have hP : va_P D vwCl [] s.heap := hP
  have hl := lv_entry ([.int p0]) (n := 1) (Nat.le_of_ble_eq_true rfl)
  rw [lg_entry_eq]
  generalize (lg_sl ([.int p0]) ++ List.replicate (1 - (lg_sl ([.int p0])).length) Slot.unset).toArray = ls at hl ⊢
  have hl : lv_has ls 1 [(0, .int p0)] := hl
  refine lv_iload_n hx hb dX11_isClause_0 rfl (lv_at hl 0 rfl) ?_
  refine lv_if_lt (tgt := 14) hx hb dX11_isClause_1 (by decide) (fun c_1 => ?_) (fun c_1 => ?_)
  · refine lv_iconst (v := 0) hx hb dX11_isClause_14 (by decide) ?_
    exact W.zret hx hb hr rfl (fun t ht hW => ⟨by first | rfl | (simp only [btw, c_1, ↓reduceIte, if_true, if_false, not_true_eq_false, not_false_eq_true]; done) | (simp [btw, c_1]; done), ht⟩) (fun q hq => absurd hq List.not_mem_nil) dX11_isClause_15
  · refine lv_iload_n hx hb dX11_isClause_4 rfl (lv_at hl 0 rfl) ?_
    refine lv_bipush (v := 99) hx hb dX11_isClause_5 (by decide) ?_
    refine lv_icmp_gt (tgt := 14) hx hb dX11_isClause_7 (by decide) (fun c_2 => ?_) (fun c_2 => ?_)
    · refine lv_iconst (v := 0) hx hb dX11_isClause_14 (by decide) ?_
      exact W.zret hx hb hr rfl (fun t ht hW => ⟨by first | rfl | (simp only [btw, c_1, c_2, ↓reduceIte, if_true, if_false, not_true_eq_false, not_false_eq_true]; done) | (simp [btw, c_1, c_2]; done), ht⟩) (fun q hq => absurd hq List.not_mem_nil) dX11_isClause_15
    · refine lv_iconst (v := 1) hx hb dX11_isClause_10 (by decide) ?_
      refine lv_goto (tgt := 15) hx hb dX11_isClause_11 (by decide) ?_
      exact W.zret hx hb hr rfl (fun t ht hW => ⟨by first | rfl | (simp only [btw, c_1, c_2, ↓reduceIte, if_true, if_false, not_true_eq_false, not_false_eq_true]; done) | (simp [btw, c_1, c_2]; done), ht⟩) (fun q hq => absurd hq List.not_mem_nil) dX11_isClause_15
theorem dX10_append_0 : decode cX10_append 0 = .ok (.aload_n 0, 1) := by decide +kernel
theorem dX10_append_1 : decode cX10_append 1 = .ok (.getfield 15, 3) := by decide +kernel
theorem dX10_append_4 : decode cX10_append 4 = .ok (.bipush 8, 2) := by decide +kernel
theorem dX10_append_6 : decode cX10_append 6 = .ok (.if_icmp .ge 23, 3) := by decide +kernel
theorem dX10_append_9 : decode cX10_append 9 = .ok (.aload_n 0, 1) := by decide +kernel
theorem dX10_append_10 : decode cX10_append 10 = .ok (.getfield 9, 3) := by decide +kernel
theorem dX10_append_13 : decode cX10_append 13 = .ok (.aload_n 0, 1) := by decide +kernel
theorem dX10_append_14 : decode cX10_append 14 = .ok (.getfield 15, 3) := by decide +kernel
theorem dX10_append_17 : decode cX10_append 17 = .ok (.iload_n 1, 1) := by decide +kernel
theorem dX10_append_18 : decode cX10_append 18 = .ok (.iastore, 1) := by decide +kernel
theorem dX10_append_19 : decode cX10_append 19 = .ok (.aload_n 0, 1) := by decide +kernel
theorem dX10_append_20 : decode cX10_append 20 = .ok (.dup, 1) := by decide +kernel
theorem dX10_append_21 : decode cX10_append 21 = .ok (.getfield 15, 3) := by decide +kernel
theorem dX10_append_24 : decode cX10_append 24 = .ok (.iconst 1, 1) := by decide +kernel
theorem dX10_append_25 : decode cX10_append 25 = .ok (.iadd, 1) := by decide +kernel
theorem dX10_append_26 : decode cX10_append 26 = .ok (.putfield 15, 3) := by decide +kernel
theorem dX10_append_29 : decode cX10_append 29 = .ok (.return_, 1) := by decide +kernel
set_option maxRecDepth 100000 in
theorem q_141 : (.fieldLink RX10 15 "AssemblyChair$Text" "length" "I") ∈ lw_all := List.mem_filter.mpr ⟨List.mem_of_getElem? (i := 141) (by decide +kernel), by decide +kernel⟩
set_option maxHeartbeats 4000000 in
set_option maxRecDepth 100000 in
theorem c_X10_append (l : Launch) (D : va_G) (cI cQ cM cR : ClassId) (nbu : Nat) (nbc : Nat) (p0 : Int32) (sz : Nat) : Met l yX10_append (ws_ yX10_append cX10_append 2 none) ({ frames := 0, cells := 0, slots := 0, locals := 0 }) (PW D cI cQ cM cR [.ref nbu, .int p0] [(nbu, .inr (10, [.int 0, .ref nbc])), (nbc, .inl (cI, 8, .inl (fun _ => 0)))] sz) (va_Qv (fun _ => True) (fun (_ : Unit) (t : State) => va_P D vwCl [(nbu, .inr (10, [.int 1, .ref nbc])), (nbc, .inl (cI, 8, .inl (upd (fun _ => 0) 0 p0)))] t.heap ∧ va_D (va_A [(nbu, .inr (10, [.int 0, .ref nbc])), (nbc, .inl (cI, 8, .inl (fun _ => 0)))] sz) [(nbu, .inr (10, [.int 1, .ref nbc])), (nbc, .inl (cI, 8, .inl (upd (fun _ => 0) 0 p0)))]) (va_A [(nbu, .inr (10, [.int 0, .ref nbc])), (nbc, .inl (cI, 8, .inl (fun _ => 0)))] sz)) 0 0 (va_A [(nbu, .inr (10, [.int 0, .ref nbc])), (nbc, .inl (cI, 8, .inl (fun _ => 0)))] sz) := by
  refine Met.ofW (cc := cX10_append) (maxL := 2) (ret := none) (by decide) rfl ?_
  intro p e s m args below meth c s₁ B hml hv
  obtain ⟨rfl, hsz, hP, hK, hD0⟩ := hv
  have hx := B.exec
  have hb := B.bytes
  have hr := B.returns
  have hts : ∀ w ∈ lw_all, w.before _ s = true := fun w h => atoms_spec (ws := (ws_ yX10_append cX10_append 2 none)) B.pre w (List.mem_cons_of_mem _ h)
  have hown : s.vm.findClass RX10 = some m.cls := findClass_of_methodNamed B.named
  have hlocks := B.notSynchronized
  subst hsz
  have hD := hD0.self (sz := s.heap.size)
  generalize hAe : va_A [(nbu, .inr (10, [.int 0, .ref nbc])), (nbc, .inl (cI, 8, .inl (fun _ => 0)))] s.heap.size = A at hD ⊢
  have hA : ∀ q : Nat, s.heap.size ≤ q → A q := fun q h => by rw [← hAe]; exact Or.inr h
  have hS : va_S A s.heap s.heap [] := va_S.rf
  have hP : va_P D vwCl [(nbu, .inr (10, [.int 0, .ref nbc])), (nbc, .inl (cI, 8, .inl (fun _ => 0)))] s.heap := hP
  have hl := lv_entry ([.ref nbu, .int p0]) (n := 2) (Nat.le_of_ble_eq_true rfl)
  rw [lg_entry_eq]
  generalize (lg_sl ([.ref nbu, .int p0]) ++ List.replicate (2 - (lg_sl ([.ref nbu, .int p0])).length) Slot.unset).toArray = ls at hl ⊢
  have hl : lv_has ls 2 [(0, .ref nbu), (1, .int p0)] := hl
  obtain ⟨H, hH⟩ : ∃ H : Heap, H = s.heap := ⟨_, rfl⟩
  rw [← hH] at hP
  have hS : va_S A s.heap H [] := by rw [hH]; exact hS
  rw [← hH]
  refine lv_aload_n hx hb dX10_append_0 rfl (lv_at hl 0 rfl) ?_
  refine va_get (D := D) (ci := 10) (v := .int 0) (C := RX10) (T := TX10) (N := 2) hx hb hts in_X10 hown hK hP 0 rfl rfl 0 (by decide) (hts _ q_141) (fun _ h9 => h9) rfl dX10_append_1 ?_
  refine lv_bipush (v := 8) hx hb dX10_append_4 (by decide) ?_
  refine lv_icmp_ge (tgt := 29) hx hb dX10_append_6 (by decide) (fun c9 => absurd c9 (by decide)) (fun _ => ?_)
  refine lv_aload_n hx hb dX10_append_9 rfl (lv_at hl 0 rfl) ?_
  refine va_get (D := D) (ci := 10) (v := .ref nbc) (C := RX10) (T := TX10) (N := 2) hx hb hts in_X10 hown hK hP 0 rfl rfl 1 (by decide) (hts _ q_144) (fun _ h9 => h9) rfl dX10_append_10 ?_
  refine lv_aload_n hx hb dX10_append_13 rfl (lv_at hl 0 rfl) ?_
  refine va_get (D := D) (ci := 10) (v := .int 0) (C := RX10) (T := TX10) (N := 2) hx hb hts in_X10 hown hK hP 0 rfl rfl 0 (by decide) (hts _ q_141) (fun _ h9 => h9) rfl dX10_append_14 ?_
  refine lv_iload_n hx hb dX10_append_17 rfl (lv_at hl 1 rfl) ?_
  refine va_iast hx hb hK hP hD hS 1 0 rfl rfl (i := 0) (by unfold vp_in; decide) dX10_append_18 (fun H locs hP hD hS => ?_)
  have hP : va_P D vwCl [(nbu, .inr (10, [.int 0, .ref nbc])), (nbc, .inl (cI, 8, .inl (upd (fun _ => 0) 0 p0)))] H := hP
  have hD : va_D A [(nbu, .inr (10, [.int 0, .ref nbc])), (nbc, .inl (cI, 8, .inl (upd (fun _ => 0) 0 p0)))] := hD
  refine lv_aload_n hx hb dX10_append_19 rfl (lv_at hl 0 rfl) ?_
  refine lv_dup hx hb dX10_append_20 rfl ?_
  refine va_get (D := D) (ci := 10) (v := .int 0) (C := RX10) (T := TX10) (N := 2) hx hb hts in_X10 hown hK hP 0 rfl rfl 0 (by decide) (hts _ q_141) (fun _ h9 => h9) rfl dX10_append_21 ?_
  refine lv_iconst (v := 1) hx hb dX10_append_24 (by decide) ?_
  refine lv_iadd hx hb dX10_append_25 ?_
  refine lv_cst (v := 1) (by decide) ?_
  refine va_put (D := D) (ci := 10) (v := .int 1) (ty := .int) (C := RX10) (T := TX10) (N := 2) hx hb hts in_X10 tyX10 tyX10_ok nmX10 hown hK hP hD hS 0 rfl rfl 0 (by decide) (hts _ q_141) (fun _ h9 => h9) rfl (by decide +kernel) rfl rfl (Nat.le_of_ble_eq_true rfl) dX10_append_26 (fun H locs hP hD hS => ?_)
  have hP : va_P D vwCl [(nbu, .inr (10, [.int 1, .ref nbc])), (nbc, .inl (cI, 8, .inl (upd (fun _ => 0) 0 p0)))] H := hP
  have hD : va_D A [(nbu, .inr (10, [.int 1, .ref nbc])), (nbc, .inl (cI, 8, .inl (upd (fun _ => 0) 0 p0)))] := hD
  refine W.widen (k := 0) (n := 0) (Nat.le_of_ble_eq_true rfl) (Nat.le_of_ble_eq_true rfl) ?_
  exact W.vret hx hb hr (fun t ht hW => ⟨⟨(), rfl, trivial, by rw [ht]; exact hP.sub [0, 1] rfl, hD.sub [0, 1] (by decide) rfl⟩, hS.F ht⟩) hS.2.2 dX10_append_29
theorem dX11_clause_0 : decode cX11_clause 0 = .ok (.iload_n 1, 1) := by decide +kernel
theorem dX11_clause_1 : decode cX11_clause 1 = .ok (.invokestatic 67, 3) := by decide +kernel
theorem dX11_clause_4 : decode cX11_clause 4 = .ok (.ifCond .ne 6, 3) := by decide +kernel
theorem dX11_clause_7 : decode cX11_clause 7 = .ok (.bipush (-2), 2) := by decide +kernel
theorem dX11_clause_9 : decode cX11_clause 9 = .ok (.ireturn, 1) := by decide +kernel
theorem dX11_clause_10 : decode cX11_clause 10 = .ok (.aload_n 0, 1) := by decide +kernel
theorem dX11_clause_11 : decode cX11_clause 11 = .ok (.getfield 12, 3) := by decide +kernel
theorem dX11_clause_14 : decode cX11_clause 14 = .ok (.getfield 70, 3) := by decide +kernel
theorem dX11_clause_17 : decode cX11_clause 17 = .ok (.getfield 73, 3) := by decide +kernel
theorem dX11_clause_20 : decode cX11_clause 20 = .ok (.bipush 8, 2) := by decide +kernel
theorem dX11_clause_22 : decode cX11_clause 22 = .ok (.if_icmp .lt 6, 3) := by decide +kernel
theorem dX11_clause_28 : decode cX11_clause 28 = .ok (.aload_n 0, 1) := by decide +kernel
theorem dX11_clause_29 : decode cX11_clause 29 = .ok (.getfield 12, 3) := by decide +kernel
theorem dX11_clause_32 : decode cX11_clause 32 = .ok (.getfield 70, 3) := by decide +kernel
theorem dX11_clause_35 : decode cX11_clause 35 = .ok (.iload_n 1, 1) := by decide +kernel
theorem dX11_clause_36 : decode cX11_clause 36 = .ok (.invokevirtual 76, 3) := by decide +kernel
theorem dX11_clause_39 : decode cX11_clause 39 = .ok (.aload_n 0, 1) := by decide +kernel
theorem dX11_clause_40 : decode cX11_clause 40 = .ok (.getfield 12, 3) := by decide +kernel
theorem dX11_clause_43 : decode cX11_clause 43 = .ok (.getfield 70, 3) := by decide +kernel
theorem dX11_clause_46 : decode cX11_clause 46 = .ok (.getfield 73, 3) := by decide +kernel
theorem dX11_clause_49 : decode cX11_clause 49 = .ok (.ireturn, 1) := by decide +kernel
set_option maxRecDepth 100000 in
theorem q_474 : (.code yX10_append cX10_append 2 none) ∈ lw_all := List.mem_filter.mpr ⟨List.mem_of_getElem? (i := 474) (rfl), by decide +kernel⟩
set_option maxRecDepth 100000 in
theorem q_470 : (.code yX11_isClause cX11_isClause 1 (some .boolean)) ∈ lw_all := List.mem_filter.mpr ⟨List.mem_of_getElem? (i := 470) (rfl), by decide +kernel⟩
set_option maxRecDepth 100000 in
theorem q_350 : (.fieldLink RX11 70 "AssemblyChair$Meeting" "buffer" "LAssemblyChair$Text;") ∈ lw_all := List.mem_filter.mpr ⟨List.mem_of_getElem? (i := 350) (by decide +kernel), by decide +kernel⟩
set_option maxRecDepth 100000 in
theorem q_142 : (.fieldLink RX11 73 "AssemblyChair$Text" "length" "I") ∈ lw_all := List.mem_filter.mpr ⟨List.mem_of_getElem? (i := 142) (by decide +kernel), by decide +kernel⟩
set_option maxRecDepth 100000 in
theorem q_472 : (.instanceMethod yX10_append) ∈ lw_all := List.mem_filter.mpr ⟨List.mem_of_getElem? (i := 472) (by decide +kernel), by decide +kernel⟩
set_option maxRecDepth 100000 in
theorem q_468 : (.methodLink RX11 67 yX11_isClause) ∈ lw_all := List.mem_filter.mpr ⟨List.mem_of_getElem? (i := 468) (by decide +kernel), by decide +kernel⟩
set_option maxRecDepth 100000 in
theorem q_471 : (.methodLink RX11 76 yX10_append) ∈ lw_all := List.mem_filter.mpr ⟨List.mem_of_getElem? (i := 471) (by decide +kernel), by decide +kernel⟩
set_option maxRecDepth 100000 in
theorem q_473 : (.selects RX10 yX10_append yX10_append) ∈ lw_all := List.mem_filter.mpr ⟨List.mem_of_getElem? (i := 473) (by decide +kernel), by decide +kernel⟩
set_option maxRecDepth 100000 in
theorem q_469 : (.static yX11_isClause) ∈ lw_all := List.mem_filter.mpr ⟨List.mem_of_getElem? (i := 469) (by decide +kernel), by decide +kernel⟩
set_option maxHeartbeats 4000000 in
set_option maxRecDepth 100000 in
theorem c_X11_clause (l : Launch) (D : va_G) (cI cQ cM cR : ClassId) (x0 : Nat) (nme : Nat) (sme : Nat) (xr : Nat) (xs : Nat) (nho : Nat) (ndk : Nat) (nsh : Nat) (nmi : Nat) (nba : Nat) (nde : Nat) (nbu : Nat) (nbc : Nat) (p0 : Int32) (sz : Nat) : Met l yX11_clause (ws_ yX11_clause cX11_clause 2 (some .int)) ({ frames := 1, cells := 0, slots := 0, locals := 21 }) (PW D cI cQ cM cR [.ref x0, .int p0] [(x0, .inr (11, [.ref nme, .ref sme, .int 0, .ref xr, .ref xs])), (nme, .inr (4, [.ref nho, .ref ndk, .ref nsh, .ref nmi, .ref nba, .ref nde, .ref nbu, .int 1, .int 0, .null, .int 0, .int 0, .int 0])), (nbu, .inr (10, [.int 0, .ref nbc])), (nbc, .inl (cI, 8, .inl (fun _ => 0)))] sz) (va_Qi (fun (r : Int32) (_ : Unit) => r = (sp_clause p0)) (fun (_ : Unit) (_ : State) => True) (va_A [(x0, .inr (11, [.ref nme, .ref sme, .int 0, .ref xr, .ref xs])), (nme, .inr (4, [.ref nho, .ref ndk, .ref nsh, .ref nmi, .ref nba, .ref nde, .ref nbu, .int 1, .int 0, .null, .int 0, .int 0, .int 0])), (nbu, .inr (10, [.int 0, .ref nbc])), (nbc, .inl (cI, 8, .inl (fun _ => 0)))] sz)) 0 0 (va_A [(x0, .inr (11, [.ref nme, .ref sme, .int 0, .ref xr, .ref xs])), (nme, .inr (4, [.ref nho, .ref ndk, .ref nsh, .ref nmi, .ref nba, .ref nde, .ref nbu, .int 1, .int 0, .null, .int 0, .int 0, .int 0])), (nbu, .inr (10, [.int 0, .ref nbc])), (nbc, .inl (cI, 8, .inl (fun _ => 0)))] sz) := by
  refine Met.ofW (cc := cX11_clause) (maxL := 2) (ret := (some .int)) (by decide) rfl ?_
  intro p e s m args below meth c s₁ B hml hv
  obtain ⟨rfl, hsz, hP, hK, hD0⟩ := hv
  have hx := B.exec
  have hb := B.bytes
  have hr := B.returns
  have hts : ∀ w ∈ lw_all, w.before _ s = true := fun w h => atoms_spec (ws := (ws_ yX11_clause cX11_clause 2 (some .int))) B.pre w (List.mem_cons_of_mem _ h)
  have hown : s.vm.findClass RX11 = some m.cls := findClass_of_methodNamed B.named
  have hlocks := B.notSynchronized
  subst hsz
  have hD := hD0.self (sz := s.heap.size)
  generalize hAe : va_A [(x0, .inr (11, [.ref nme, .ref sme, .int 0, .ref xr, .ref xs])), (nme, .inr (4, [.ref nho, .ref ndk, .ref nsh, .ref nmi, .ref nba, .ref nde, .ref nbu, .int 1, .int 0, .null, .int 0, .int 0, .int 0])), (nbu, .inr (10, [.int 0, .ref nbc])), (nbc, .inl (cI, 8, .inl (fun _ => 0)))] s.heap.size = A at hD ⊢
  have hA : ∀ q : Nat, s.heap.size ≤ q → A q := fun q h => by rw [← hAe]; exact Or.inr h
  have hS : va_S A s.heap s.heap [] := va_S.rf
  have hP : va_P D vwCl [(x0, .inr (11, [.ref nme, .ref sme, .int 0, .ref xr, .ref xs])), (nme, .inr (4, [.ref nho, .ref ndk, .ref nsh, .ref nmi, .ref nba, .ref nde, .ref nbu, .int 1, .int 0, .null, .int 0, .int 0, .int 0])), (nbu, .inr (10, [.int 0, .ref nbc])), (nbc, .inl (cI, 8, .inl (fun _ => 0)))] s.heap := hP
  have hl := lv_entry ([.ref x0, .int p0]) (n := 2) (Nat.le_of_ble_eq_true rfl)
  rw [lg_entry_eq]
  generalize (lg_sl ([.ref x0, .int p0]) ++ List.replicate (2 - (lg_sl ([.ref x0, .int p0])).length) Slot.unset).toArray = ls at hl ⊢
  have hl : lv_has ls 2 [(0, .ref x0), (1, .int p0)] := hl
  obtain ⟨H, hH⟩ : ∃ H : Heap, H = s.heap := ⟨_, rfl⟩
  rw [← hH] at hP
  have hS : va_S A s.heap H [] := by rw [hH]; exact hS
  rw [← hH]
  refine lv_iload_n hx hb dX11_clause_0 rfl (lv_at hl 1 rfl) ?_
  refine p_call (va_runS (As := [.int p0]) (rest := []) ⟨hx, hb, hml, hown, hts⟩ (c_X11_isClause l D cI cQ cM cR p0) (va_cwS 1 hts (gS q_468 q_469 q_65 q_470) rfl rfl rfl (by decide +kernel) ⟨Nat.le_of_ble_eq_true rfl, Nat.le_of_ble_eq_true rfl⟩) ⟨PP_blind, PP_of hK (hP.sub [] rfl)⟩ rfl rfl hl.1 rfl (lv_room (Nat.le_of_ble_eq_true rfl)) dX11_clause_1 ⟨Nat.le_of_ble_eq_true rfl, Nat.le_of_ble_eq_true rfl⟩) ?_
  refine lv_if_ne (tgt := 10) hx hb dX11_clause_4 (by decide) (fun c_1 => ?_) (fun c_1 => ?_)
  · refine lv_aload_n hx hb dX11_clause_10 rfl (lv_at hl 0 rfl) ?_
    refine va_get (D := D) (ci := 11) (v := .ref nme) (C := RX11) (T := TX11) (N := 5) hx hb hts in_X11 hown hK hP 0 rfl rfl 0 (by decide) (hts _ q_412) (fun _ h9 => h9) rfl dX11_clause_11 ?_
    refine va_get (D := D) (ci := 4) (v := .ref nbu) (C := RX4) (T := TX4) (N := 13) hx hb hts in_X4 hown hK hP 1 rfl rfl 6 (by decide) (hts _ q_350) (fun _ h9 => h9) rfl dX11_clause_14 ?_
    refine va_get (D := D) (ci := 10) (v := .int 0) (C := RX10) (T := TX10) (N := 2) hx hb hts in_X10 hown hK hP 2 rfl rfl 0 (by decide) (hts _ q_142) (fun _ h9 => h9) rfl dX11_clause_17 ?_
    refine lv_bipush (v := 8) hx hb dX11_clause_20 (by decide) ?_
    refine lv_icmp_lt (tgt := 28) hx hb dX11_clause_22 (by decide) (fun _ => ?_) (fun c9 => absurd (by decide) c9)
    refine lv_aload_n hx hb dX11_clause_28 rfl (lv_at hl 0 rfl) ?_
    refine va_get (D := D) (ci := 11) (v := .ref nme) (C := RX11) (T := TX11) (N := 5) hx hb hts in_X11 hown hK hP 0 rfl rfl 0 (by decide) (hts _ q_412) (fun _ h9 => h9) rfl dX11_clause_29 ?_
    refine va_get (D := D) (ci := 4) (v := .ref nbu) (C := RX4) (T := TX4) (N := 13) hx hb hts in_X4 hown hK hP 1 rfl rfl 6 (by decide) (hts _ q_350) (fun _ h9 => h9) rfl dX11_clause_32 ?_
    refine lv_iload_n hx hb dX11_clause_35 rfl (lv_at hl 1 rfl) ?_
    have hFc := va_free (wc := [(nbu, .inr (10, [.int 0, .ref nbc])), (nbc, .inl (cI, 8, .inl (fun _ => 0)))]) hD hS hA [2, 3] rfl
    refine va_callv (va_runV (As := [.int p0]) (rest := []) ⟨hx, hb, hml, hown, hts⟩ (c_X10_append l D cI cQ cM cR nbu nbc p0 H.size) (cwV 1 hts (gV q_471 q_472 q_473 q_70 q_474) rfl rfl rfl (by decide +kernel) ⟨Nat.le_of_ble_eq_true rfl, Nat.le_of_ble_eq_true rfl⟩) ⟨PW_blind, va_recv hK hP (ci := 10) (q0 := 2) rfl rfl, PW_of hK (hP.sub [2, 3] rfl) (hD.sub [2, 3] (by decide) rfl)⟩ rfl rfl hl.1 rfl (lv_room (Nat.le_of_ble_eq_true rfl)) dX11_clause_36 ⟨Nat.le_of_ble_eq_true rfl, Nat.le_of_ble_eq_true rfl⟩) hS (fun q _ h => hFc q h) hFc (fun u t H1 locs ht hvm hw hB hz1 hk1 hS => ?_)
    obtain ⟨hP1, hD1⟩ := hB
    rw [ht] at hP1
    obtain ⟨hP, hD⟩ := va_join (wr := [(x0, .inr (11, [.ref nme, .ref sme, .int 0, .ref xr, .ref xs])), (nme, .inr (4, [.ref nho, .ref ndk, .ref nsh, .ref nmi, .ref nba, .ref nde, .ref nbu, .int 1, .int 0, .null, .int 0, .int 0, .int 0]))]) (w1 := [(nbu, .inr (10, [.int 1, .ref nbc])), (nbc, .inl (cI, 8, .inl (upd (fun _ => 0) 0 p0)))]) hP hD [2, 3] [0, 1] rfl rfl (by decide) (by decide) hk1 hFc hP1 hD1
    generalize H1 = H at hP hS ⊢
    have hP : va_P D vwCl [(x0, .inr (11, [.ref nme, .ref sme, .int 0, .ref xr, .ref xs])), (nme, .inr (4, [.ref nho, .ref ndk, .ref nsh, .ref nmi, .ref nba, .ref nde, .ref nbu, .int 1, .int 0, .null, .int 0, .int 0, .int 0])), (nbu, .inr (10, [.int 1, .ref nbc])), (nbc, .inl (cI, 8, .inl (upd (fun _ => 0) 0 p0)))] H := hP
    have hD : va_D A [(x0, .inr (11, [.ref nme, .ref sme, .int 0, .ref xr, .ref xs])), (nme, .inr (4, [.ref nho, .ref ndk, .ref nsh, .ref nmi, .ref nba, .ref nde, .ref nbu, .int 1, .int 0, .null, .int 0, .int 0, .int 0])), (nbu, .inr (10, [.int 1, .ref nbc])), (nbc, .inl (cI, 8, .inl (upd (fun _ => 0) 0 p0)))] := hD
    refine lv_aload_n hx hb dX11_clause_39 rfl (lv_at hl 0 rfl) ?_
    refine va_get (D := D) (ci := 11) (v := .ref nme) (C := RX11) (T := TX11) (N := 5) hx hb hts in_X11 hown hK hP 0 rfl rfl 0 (by decide) (hts _ q_412) (fun _ h9 => h9) rfl dX11_clause_40 ?_
    refine va_get (D := D) (ci := 4) (v := .ref nbu) (C := RX4) (T := TX4) (N := 13) hx hb hts in_X4 hown hK hP 1 rfl rfl 6 (by decide) (hts _ q_350) (fun _ h9 => h9) rfl dX11_clause_43 ?_
    refine va_get (D := D) (ci := 10) (v := .int 1) (C := RX10) (T := TX10) (N := 2) hx hb hts in_X10 hown hK hP 2 rfl rfl 0 (by decide) (hts _ q_142) (fun _ h9 => h9) rfl dX11_clause_46 ?_
    refine W.widen (k := 0) (n := 0) (Nat.le_of_ble_eq_true rfl) (Nat.le_of_ble_eq_true rfl) ?_
    exact W.iret hx hb hr (fun t ht hW => ⟨⟨_, (), rfl, by first | rfl | (simp only [sp_clause, c_1, ↓reduceIte, if_true, if_false, not_true_eq_false, not_false_eq_true]; done) | (simp [sp_clause, c_1]; done), trivial⟩, hS.F ht⟩) hS.2.2 dX11_clause_49
  · refine lv_bipush (v := (-2)) hx hb dX11_clause_7 (by decide) ?_
    refine W.widen (k := 0) (n := 0) (Nat.le_of_ble_eq_true rfl) (Nat.le_of_ble_eq_true rfl) ?_
    exact W.iret hx hb hr (fun t ht hW => ⟨⟨_, (), rfl, by first | rfl | (simp only [sp_clause, c_1, ↓reduceIte, if_true, if_false, not_true_eq_false, not_false_eq_true]; done) | (simp [sp_clause, c_1]; done), trivial⟩, hS.F ht⟩) hS.2.2 dX11_clause_9
theorem dX11_pass_0 : decode cX11_pass 0 = .ok (.iload_n 1, 1) := by decide +kernel
theorem dX11_pass_1 : decode cX11_pass 1 = .ok (.iconst 1, 1) := by decide +kernel
theorem dX11_pass_2 : decode cX11_pass 2 = .ok (.if_icmp .lt 10, 3) := by decide +kernel
theorem dX11_pass_5 : decode cX11_pass 5 = .ok (.iload_n 1, 1) := by decide +kernel
theorem dX11_pass_6 : decode cX11_pass 6 = .ok (.sipush 500, 3) := by decide +kernel
theorem dX11_pass_9 : decode cX11_pass 9 = .ok (.if_icmp .le 6, 3) := by decide +kernel
theorem dX11_pass_12 : decode cX11_pass 12 = .ok (.bipush (-2), 2) := by decide +kernel
theorem dX11_pass_14 : decode cX11_pass 14 = .ok (.ireturn, 1) := by decide +kernel
theorem dX11_pass_15 : decode cX11_pass 15 = .ok (.aload_n 0, 1) := by decide +kernel
theorem dX11_pass_16 : decode cX11_pass 16 = .ok (.getfield 12, 3) := by decide +kernel
theorem dX11_pass_19 : decode cX11_pass 19 = .ok (.getfield 80, 3) := by decide +kernel
theorem dX11_pass_22 : decode cX11_pass 22 = .ok (.iload_n 1, 1) := by decide +kernel
theorem dX11_pass_23 : decode cX11_pass 23 = .ok (.iadd, 1) := by decide +kernel
theorem dX11_pass_24 : decode cX11_pass 24 = .ok (.sipush 9999, 3) := by decide +kernel
theorem dX11_pass_27 : decode cX11_pass 27 = .ok (.if_icmp .le 6, 3) := by decide +kernel
theorem dX11_pass_33 : decode cX11_pass 33 = .ok (.aload_n 0, 1) := by decide +kernel
theorem dX11_pass_34 : decode cX11_pass 34 = .ok (.getfield 12, 3) := by decide +kernel
theorem dX11_pass_37 : decode cX11_pass 37 = .ok (.dup, 1) := by decide +kernel
theorem dX11_pass_38 : decode cX11_pass 38 = .ok (.getfield 80, 3) := by decide +kernel
theorem dX11_pass_41 : decode cX11_pass 41 = .ok (.iload_n 1, 1) := by decide +kernel
theorem dX11_pass_42 : decode cX11_pass 42 = .ok (.iadd, 1) := by decide +kernel
theorem dX11_pass_43 : decode cX11_pass 43 = .ok (.putfield 80, 3) := by decide +kernel
theorem dX11_pass_46 : decode cX11_pass 46 = .ok (.aload_n 0, 1) := by decide +kernel
theorem dX11_pass_47 : decode cX11_pass 47 = .ok (.getfield 12, 3) := by decide +kernel
theorem dX11_pass_50 : decode cX11_pass 50 = .ok (.getfield 80, 3) := by decide +kernel
theorem dX11_pass_53 : decode cX11_pass 53 = .ok (.ireturn, 1) := by decide +kernel
set_option maxHeartbeats 4000000 in
set_option maxRecDepth 100000 in
theorem c_X11_pass (l : Launch) (D : va_G) (cI cQ cM cR : ClassId) (x0 : Nat) (nme : Nat) (sme : Nat) (xr : Nat) (xs : Nat) (nho : Nat) (ndk : Nat) (nsh : Nat) (nmi : Nat) (nba : Nat) (nde : Nat) (nbu : Nat) (p0 : Int32) (sz : Nat) : Met l yX11_pass (ws_ yX11_pass cX11_pass 2 (some .int)) ({ frames := 0, cells := 0, slots := 0, locals := 0 }) (PW D cI cQ cM cR [.ref x0, .int p0] [(x0, .inr (11, [.ref nme, .ref sme, .int 0, .ref xr, .ref xs])), (nme, .inr (4, [.ref nho, .ref ndk, .ref nsh, .ref nmi, .ref nba, .ref nde, .ref nbu, .int 1, .int 0, .null, .int 0, .int 0, .int 0]))] sz) (va_Qi (fun (r : Int32) (_ : Unit) => r = (sp_pass p0)) (fun (_ : Unit) (_ : State) => True) (va_A [(x0, .inr (11, [.ref nme, .ref sme, .int 0, .ref xr, .ref xs])), (nme, .inr (4, [.ref nho, .ref ndk, .ref nsh, .ref nmi, .ref nba, .ref nde, .ref nbu, .int 1, .int 0, .null, .int 0, .int 0, .int 0]))] sz)) 0 0 (va_A [(x0, .inr (11, [.ref nme, .ref sme, .int 0, .ref xr, .ref xs])), (nme, .inr (4, [.ref nho, .ref ndk, .ref nsh, .ref nmi, .ref nba, .ref nde, .ref nbu, .int 1, .int 0, .null, .int 0, .int 0, .int 0]))] sz) := by
  refine Met.ofW (cc := cX11_pass) (maxL := 2) (ret := (some .int)) (by decide) rfl ?_
  intro p e s m args below meth c s₁ B hml hv
  obtain ⟨rfl, hsz, hP, hK, hD0⟩ := hv
  have hx := B.exec
  have hb := B.bytes
  have hr := B.returns
  have hts : ∀ w ∈ lw_all, w.before _ s = true := fun w h => atoms_spec (ws := (ws_ yX11_pass cX11_pass 2 (some .int))) B.pre w (List.mem_cons_of_mem _ h)
  have hown : s.vm.findClass RX11 = some m.cls := findClass_of_methodNamed B.named
  have hlocks := B.notSynchronized
  subst hsz
  have hD := hD0.self (sz := s.heap.size)
  generalize hAe : va_A [(x0, .inr (11, [.ref nme, .ref sme, .int 0, .ref xr, .ref xs])), (nme, .inr (4, [.ref nho, .ref ndk, .ref nsh, .ref nmi, .ref nba, .ref nde, .ref nbu, .int 1, .int 0, .null, .int 0, .int 0, .int 0]))] s.heap.size = A at hD ⊢
  have hA : ∀ q : Nat, s.heap.size ≤ q → A q := fun q h => by rw [← hAe]; exact Or.inr h
  have hS : va_S A s.heap s.heap [] := va_S.rf
  have hP : va_P D vwCl [(x0, .inr (11, [.ref nme, .ref sme, .int 0, .ref xr, .ref xs])), (nme, .inr (4, [.ref nho, .ref ndk, .ref nsh, .ref nmi, .ref nba, .ref nde, .ref nbu, .int 1, .int 0, .null, .int 0, .int 0, .int 0]))] s.heap := hP
  have hl := lv_entry ([.ref x0, .int p0]) (n := 2) (Nat.le_of_ble_eq_true rfl)
  rw [lg_entry_eq]
  generalize (lg_sl ([.ref x0, .int p0]) ++ List.replicate (2 - (lg_sl ([.ref x0, .int p0])).length) Slot.unset).toArray = ls at hl ⊢
  have hl : lv_has ls 2 [(0, .ref x0), (1, .int p0)] := hl
  obtain ⟨H, hH⟩ : ∃ H : Heap, H = s.heap := ⟨_, rfl⟩
  rw [← hH] at hP
  have hS : va_S A s.heap H [] := by rw [hH]; exact hS
  rw [← hH]
  refine lv_iload_n hx hb dX11_pass_0 rfl (lv_at hl 1 rfl) ?_
  refine lv_iconst (v := 1) hx hb dX11_pass_1 (by decide) ?_
  refine lv_icmp_lt (tgt := 12) hx hb dX11_pass_2 (by decide) (fun c_1 => ?_) (fun c_1 => ?_)
  · refine lv_bipush (v := (-2)) hx hb dX11_pass_12 (by decide) ?_
    refine W.widen (k := 0) (n := 0) (Nat.le_of_ble_eq_true rfl) (Nat.le_of_ble_eq_true rfl) ?_
    exact W.iret hx hb hr (fun t ht hW => ⟨⟨_, (), rfl, by rw [sp_pass, if_pos (btw_lt 500 c_1)], trivial⟩, hS.F ht⟩) hS.2.2 dX11_pass_14
  · refine lv_iload_n hx hb dX11_pass_5 rfl (lv_at hl 1 rfl) ?_
    refine lv_sipush (v := 500) hx hb dX11_pass_6 (by decide) ?_
    refine lv_icmp_le (tgt := 15) hx hb dX11_pass_9 (by decide) (fun c_2 => ?_) (fun c_2 => ?_)
    · refine lv_aload_n hx hb dX11_pass_15 rfl (lv_at hl 0 rfl) ?_
      refine va_get (D := D) (ci := 11) (v := .ref nme) (C := RX11) (T := TX11) (N := 5) hx hb hts in_X11 hown hK hP 0 rfl rfl 0 (by decide) (hts _ q_412) (fun _ h9 => h9) rfl dX11_pass_16 ?_
      refine va_get (D := D) (ci := 4) (v := .int 0) (C := RX4) (T := TX4) (N := 13) hx hb hts in_X4 hown hK hP 1 rfl rfl 8 (by decide) (hts _ q_354) (fun _ h9 => h9) rfl dX11_pass_19 ?_
      refine lv_iload_n hx hb dX11_pass_22 rfl (lv_at hl 1 rfl) ?_
      refine lv_iadd hx hb dX11_pass_23 ?_
      refine lv_sipush (v := 9999) hx hb dX11_pass_24 (by decide) ?_
      refine lv_icmp_le (tgt := 33) hx hb dX11_pass_27 (by decide) (fun _ => ?_) (fun c9 => absurd (pass_le (Int32.not_lt.mpr c_2)) c9)
      refine lv_aload_n hx hb dX11_pass_33 rfl (lv_at hl 0 rfl) ?_
      refine va_get (D := D) (ci := 11) (v := .ref nme) (C := RX11) (T := TX11) (N := 5) hx hb hts in_X11 hown hK hP 0 rfl rfl 0 (by decide) (hts _ q_412) (fun _ h9 => h9) rfl dX11_pass_34 ?_
      refine lv_dup hx hb dX11_pass_37 rfl ?_
      refine va_get (D := D) (ci := 4) (v := .int 0) (C := RX4) (T := TX4) (N := 13) hx hb hts in_X4 hown hK hP 1 rfl rfl 8 (by decide) (hts _ q_354) (fun _ h9 => h9) rfl dX11_pass_38 ?_
      refine lv_iload_n hx hb dX11_pass_41 rfl (lv_at hl 1 rfl) ?_
      refine lv_iadd hx hb dX11_pass_42 ?_
      refine va_put (D := D) (ci := 4) (v := .int (0 + p0)) (ty := .int) (C := RX4) (T := TX4) (N := 13) hx hb hts in_X4 tyX4 tyX4_ok nmX4 hown hK hP hD hS 1 rfl rfl 8 (by decide) (hts _ q_354) (fun _ h9 => h9) rfl (by decide +kernel) rfl rfl (Nat.le_of_ble_eq_true rfl) dX11_pass_43 (fun H locs hP hD hS => ?_)
      have hP : va_P D vwCl [(x0, .inr (11, [.ref nme, .ref sme, .int 0, .ref xr, .ref xs])), (nme, .inr (4, [.ref nho, .ref ndk, .ref nsh, .ref nmi, .ref nba, .ref nde, .ref nbu, .int 1, .int (0 + p0), .null, .int 0, .int 0, .int 0]))] H := hP
      have hD : va_D A [(x0, .inr (11, [.ref nme, .ref sme, .int 0, .ref xr, .ref xs])), (nme, .inr (4, [.ref nho, .ref ndk, .ref nsh, .ref nmi, .ref nba, .ref nde, .ref nbu, .int 1, .int (0 + p0), .null, .int 0, .int 0, .int 0]))] := hD
      refine lv_aload_n hx hb dX11_pass_46 rfl (lv_at hl 0 rfl) ?_
      refine va_get (D := D) (ci := 11) (v := .ref nme) (C := RX11) (T := TX11) (N := 5) hx hb hts in_X11 hown hK hP 0 rfl rfl 0 (by decide) (hts _ q_412) (fun _ h9 => h9) rfl dX11_pass_47 ?_
      refine va_get (D := D) (ci := 4) (v := .int (0 + p0)) (C := RX4) (T := TX4) (N := 13) hx hb hts in_X4 hown hK hP 1 rfl rfl 8 (by decide) (hts _ q_354) (fun _ h9 => h9) rfl dX11_pass_50 ?_
      refine W.widen (k := 0) (n := 0) (Nat.le_of_ble_eq_true rfl) (Nat.le_of_ble_eq_true rfl) ?_
      exact W.iret hx hb hr (fun t ht hW => ⟨⟨_, (), rfl, by rw [sp_pass, if_neg (btw_in c_1 (Int32.not_lt.mpr c_2))], trivial⟩, hS.F ht⟩) hS.2.2 dX11_pass_53
    · refine lv_bipush (v := (-2)) hx hb dX11_pass_12 (by decide) ?_
      refine W.widen (k := 0) (n := 0) (Nat.le_of_ble_eq_true rfl) (Nat.le_of_ble_eq_true rfl) ?_
      exact W.iret hx hb hr (fun t ht hW => ⟨⟨_, (), rfl, by rw [sp_pass, if_pos (btw_gt 1 (i_nle c_2))], trivial⟩, hS.F ht⟩) hS.2.2 dX11_pass_14
theorem dX12_delegate_0 : decode cX12_delegate 0 = .ok (.iload_n 1, 1) := by decide +kernel
theorem dX12_delegate_1 : decode cX12_delegate 1 = .ok (.iconst 1, 1) := by decide +kernel
theorem dX12_delegate_2 : decode cX12_delegate 2 = .ok (.bipush 9, 2) := by decide +kernel
theorem dX12_delegate_4 : decode cX12_delegate 4 = .ok (.invokestatic 130, 3) := by decide +kernel
theorem dX12_delegate_7 : decode cX12_delegate 7 = .ok (.ifCond .ne 6, 3) := by decide +kernel
theorem dX12_delegate_10 : decode cX12_delegate 10 = .ok (.bipush (-2), 2) := by decide +kernel
theorem dX12_delegate_12 : decode cX12_delegate 12 = .ok (.ireturn, 1) := by decide +kernel
theorem dX12_delegate_13 : decode cX12_delegate 13 = .ok (.aload_n 0, 1) := by decide +kernel
theorem dX12_delegate_14 : decode cX12_delegate 14 = .ok (.getfield 115, 3) := by decide +kernel
theorem dX12_delegate_17 : decode cX12_delegate 17 = .ok (.bipush 12, 2) := by decide +kernel
theorem dX12_delegate_19 : decode cX12_delegate 19 = .ok (.if_icmp .ne 6, 3) := by decide +kernel
theorem dX12_delegate_25 : decode cX12_delegate 25 = .ok (.aload_n 0, 1) := by decide +kernel
theorem dX12_delegate_26 : decode cX12_delegate 26 = .ok (.getfield 9, 3) := by decide +kernel
theorem dX12_delegate_29 : decode cX12_delegate 29 = .ok (.aload_n 0, 1) := by decide +kernel
theorem dX12_delegate_30 : decode cX12_delegate 30 = .ok (.getfield 115, 3) := by decide +kernel
theorem dX12_delegate_33 : decode cX12_delegate 33 = .ok (.iload_n 1, 1) := by decide +kernel
theorem dX12_delegate_34 : decode cX12_delegate 34 = .ok (.iastore, 1) := by decide +kernel
theorem dX12_delegate_35 : decode cX12_delegate 35 = .ok (.aload_n 0, 1) := by decide +kernel
theorem dX12_delegate_36 : decode cX12_delegate 36 = .ok (.getfield 15, 3) := by decide +kernel
theorem dX12_delegate_39 : decode cX12_delegate 39 = .ok (.aload_n 0, 1) := by decide +kernel
theorem dX12_delegate_40 : decode cX12_delegate 40 = .ok (.getfield 115, 3) := by decide +kernel
theorem dX12_delegate_43 : decode cX12_delegate 43 = .ok (.iconst 1, 1) := by decide +kernel
theorem dX12_delegate_44 : decode cX12_delegate 44 = .ok (.iastore, 1) := by decide +kernel
theorem dX12_delegate_45 : decode cX12_delegate 45 = .ok (.aload_n 0, 1) := by decide +kernel
theorem dX12_delegate_46 : decode cX12_delegate 46 = .ok (.getfield 18, 3) := by decide +kernel
theorem dX12_delegate_49 : decode cX12_delegate 49 = .ok (.aload_n 0, 1) := by decide +kernel
theorem dX12_delegate_50 : decode cX12_delegate 50 = .ok (.getfield 115, 3) := by decide +kernel
theorem dX12_delegate_53 : decode cX12_delegate 53 = .ok (.iconst 0, 1) := by decide +kernel
theorem dX12_delegate_54 : decode cX12_delegate 54 = .ok (.iastore, 1) := by decide +kernel
theorem dX12_delegate_55 : decode cX12_delegate 55 = .ok (.aload_n 0, 1) := by decide +kernel
theorem dX12_delegate_56 : decode cX12_delegate 56 = .ok (.dup, 1) := by decide +kernel
theorem dX12_delegate_57 : decode cX12_delegate 57 = .ok (.getfield 115, 3) := by decide +kernel
theorem dX12_delegate_60 : decode cX12_delegate 60 = .ok (.iconst 1, 1) := by decide +kernel
theorem dX12_delegate_61 : decode cX12_delegate 61 = .ok (.iadd, 1) := by decide +kernel
theorem dX12_delegate_62 : decode cX12_delegate 62 = .ok (.putfield 115, 3) := by decide +kernel
theorem dX12_delegate_65 : decode cX12_delegate 65 = .ok (.aload_n 0, 1) := by decide +kernel
theorem dX12_delegate_66 : decode cX12_delegate 66 = .ok (.getfield 115, 3) := by decide +kernel
theorem dX12_delegate_69 : decode cX12_delegate 69 = .ok (.iconst 1, 1) := by decide +kernel
theorem dX12_delegate_70 : decode cX12_delegate 70 = .ok (.isub, 1) := by decide +kernel
theorem dX12_delegate_71 : decode cX12_delegate 71 = .ok (.ireturn, 1) := by decide +kernel
set_option maxHeartbeats 4000000 in
set_option maxRecDepth 100000 in
theorem c_X12_delegate (l : Launch) (D : va_G) (cI cQ cM cR : ClassId) (m0 : Nat) (gweight : Nat) (gpresent : Nat) (gspeeches : Nat) (gbuffer : Nat) (gstate : Nat) (gplace : Nat) (gmover : Nat) (gpart : Nat) (gamended : Nat) (gmany : Nat) (gclause : Nat) (gfirstMany : Nat) (gfirstClause : Nat) (gresolution : Nat) (gmotion : Nat) (gaway : Nat) (gawayMany : Nat) (gawayOrder : Nat) (gtable : Nat) (gcommittee : Nat) (glone : Nat) (gentry : Nat) (gchange : Nat) (gyesBy : Nat) (gnoBy : Nat) (gdraft : Nat) (grow : Nat) (growMany : Nat) (growFloats : Nat) (gsaved : Nat) (p0 : Int32) (sz : Nat) : Met l yX12_delegate (ws_ yX12_delegate cX12_delegate 2 (some .int)) ({ frames := 1, cells := 0, slots := 0, locals := 22 }) (PW D cI cQ cM cR [.ref m0, .int p0] [(m0, .inr (12, [.ref gweight, .ref gpresent, .ref gspeeches, .int 0, .int 50, .int 0, .int 0, .ref gbuffer, .ref gstate, .ref gplace, .ref gmover, .ref gpart, .ref gamended, .ref gmany, .ref gclause, .ref gfirstMany, .ref gfirstClause, .int 0, .int 0, .int 0, .int (-1), .ref gresolution, .ref gmotion, .ref gaway, .ref gawayMany, .ref gawayOrder, .ref gtable, .ref gcommittee, .int 0, .int 0, .int 0, .int 0, .int 0, .int 0, .int 0, .int 0, .int (-5), .int 0, .int 0, .ref glone, .int 0, .ref gentry, .ref gchange, .int 0, .int (-1), .int 0, .int 0, .ref gyesBy, .ref gnoBy, .int 0, .int 0, .int 0, .int 0, .int 0, .int 0, .ref gdraft, .ref grow, .ref growMany, .ref growFloats, .ref gsaved, .int 0, .int 0, .int 0])), (gweight, .inl (cI, 12, .inl (fun _ => 0))), (gpresent, .inl (cI, 12, .inl (fun _ => 0))), (gspeeches, .inl (cI, 12, .inl (fun _ => 0)))] sz) (va_Qi (fun (r : Int32) (_ : Unit) => r = (sp_delegate p0)) (fun (_ : Unit) (_ : State) => True) (va_A [(m0, .inr (12, [.ref gweight, .ref gpresent, .ref gspeeches, .int 0, .int 50, .int 0, .int 0, .ref gbuffer, .ref gstate, .ref gplace, .ref gmover, .ref gpart, .ref gamended, .ref gmany, .ref gclause, .ref gfirstMany, .ref gfirstClause, .int 0, .int 0, .int 0, .int (-1), .ref gresolution, .ref gmotion, .ref gaway, .ref gawayMany, .ref gawayOrder, .ref gtable, .ref gcommittee, .int 0, .int 0, .int 0, .int 0, .int 0, .int 0, .int 0, .int 0, .int (-5), .int 0, .int 0, .ref glone, .int 0, .ref gentry, .ref gchange, .int 0, .int (-1), .int 0, .int 0, .ref gyesBy, .ref gnoBy, .int 0, .int 0, .int 0, .int 0, .int 0, .int 0, .ref gdraft, .ref grow, .ref growMany, .ref growFloats, .ref gsaved, .int 0, .int 0, .int 0])), (gweight, .inl (cI, 12, .inl (fun _ => 0))), (gpresent, .inl (cI, 12, .inl (fun _ => 0))), (gspeeches, .inl (cI, 12, .inl (fun _ => 0)))] sz)) 0 0 (va_A [(m0, .inr (12, [.ref gweight, .ref gpresent, .ref gspeeches, .int 0, .int 50, .int 0, .int 0, .ref gbuffer, .ref gstate, .ref gplace, .ref gmover, .ref gpart, .ref gamended, .ref gmany, .ref gclause, .ref gfirstMany, .ref gfirstClause, .int 0, .int 0, .int 0, .int (-1), .ref gresolution, .ref gmotion, .ref gaway, .ref gawayMany, .ref gawayOrder, .ref gtable, .ref gcommittee, .int 0, .int 0, .int 0, .int 0, .int 0, .int 0, .int 0, .int 0, .int (-5), .int 0, .int 0, .ref glone, .int 0, .ref gentry, .ref gchange, .int 0, .int (-1), .int 0, .int 0, .ref gyesBy, .ref gnoBy, .int 0, .int 0, .int 0, .int 0, .int 0, .int 0, .ref gdraft, .ref grow, .ref growMany, .ref growFloats, .ref gsaved, .int 0, .int 0, .int 0])), (gweight, .inl (cI, 12, .inl (fun _ => 0))), (gpresent, .inl (cI, 12, .inl (fun _ => 0))), (gspeeches, .inl (cI, 12, .inl (fun _ => 0)))] sz) := by
  refine Met.ofW (cc := cX12_delegate) (maxL := 2) (ret := (some .int)) (by decide) rfl ?_
  intro p e s m args below meth c s₁ B hml hv
  obtain ⟨rfl, hsz, hP, hK, hD0⟩ := hv
  have hx := B.exec
  have hb := B.bytes
  have hr := B.returns
  have hts : ∀ w ∈ lw_all, w.before _ s = true := fun w h => atoms_spec (ws := (ws_ yX12_delegate cX12_delegate 2 (some .int))) B.pre w (List.mem_cons_of_mem _ h)
  have hown : s.vm.findClass RX12 = some m.cls := findClass_of_methodNamed B.named
  have hlocks := B.notSynchronized
  subst hsz
  have hD := hD0.self (sz := s.heap.size)
  generalize hAe : va_A [(m0, .inr (12, [.ref gweight, .ref gpresent, .ref gspeeches, .int 0, .int 50, .int 0, .int 0, .ref gbuffer, .ref gstate, .ref gplace, .ref gmover, .ref gpart, .ref gamended, .ref gmany, .ref gclause, .ref gfirstMany, .ref gfirstClause, .int 0, .int 0, .int 0, .int (-1), .ref gresolution, .ref gmotion, .ref gaway, .ref gawayMany, .ref gawayOrder, .ref gtable, .ref gcommittee, .int 0, .int 0, .int 0, .int 0, .int 0, .int 0, .int 0, .int 0, .int (-5), .int 0, .int 0, .ref glone, .int 0, .ref gentry, .ref gchange, .int 0, .int (-1), .int 0, .int 0, .ref gyesBy, .ref gnoBy, .int 0, .int 0, .int 0, .int 0, .int 0, .int 0, .ref gdraft, .ref grow, .ref growMany, .ref growFloats, .ref gsaved, .int 0, .int 0, .int 0])), (gweight, .inl (cI, 12, .inl (fun _ => 0))), (gpresent, .inl (cI, 12, .inl (fun _ => 0))), (gspeeches, .inl (cI, 12, .inl (fun _ => 0)))] s.heap.size = A at hD ⊢
  have hA : ∀ q : Nat, s.heap.size ≤ q → A q := fun q h => by rw [← hAe]; exact Or.inr h
  have hS : va_S A s.heap s.heap [] := va_S.rf
  have hP : va_P D vwCl [(m0, .inr (12, [.ref gweight, .ref gpresent, .ref gspeeches, .int 0, .int 50, .int 0, .int 0, .ref gbuffer, .ref gstate, .ref gplace, .ref gmover, .ref gpart, .ref gamended, .ref gmany, .ref gclause, .ref gfirstMany, .ref gfirstClause, .int 0, .int 0, .int 0, .int (-1), .ref gresolution, .ref gmotion, .ref gaway, .ref gawayMany, .ref gawayOrder, .ref gtable, .ref gcommittee, .int 0, .int 0, .int 0, .int 0, .int 0, .int 0, .int 0, .int 0, .int (-5), .int 0, .int 0, .ref glone, .int 0, .ref gentry, .ref gchange, .int 0, .int (-1), .int 0, .int 0, .ref gyesBy, .ref gnoBy, .int 0, .int 0, .int 0, .int 0, .int 0, .int 0, .ref gdraft, .ref grow, .ref growMany, .ref growFloats, .ref gsaved, .int 0, .int 0, .int 0])), (gweight, .inl (cI, 12, .inl (fun _ => 0))), (gpresent, .inl (cI, 12, .inl (fun _ => 0))), (gspeeches, .inl (cI, 12, .inl (fun _ => 0)))] s.heap := hP
  have hl := lv_entry ([.ref m0, .int p0]) (n := 2) (Nat.le_of_ble_eq_true rfl)
  rw [lg_entry_eq]
  generalize (lg_sl ([.ref m0, .int p0]) ++ List.replicate (2 - (lg_sl ([.ref m0, .int p0])).length) Slot.unset).toArray = ls at hl ⊢
  have hl : lv_has ls 2 [(0, .ref m0), (1, .int p0)] := hl
  obtain ⟨H, hH⟩ : ∃ H : Heap, H = s.heap := ⟨_, rfl⟩
  rw [← hH] at hP
  have hS : va_S A s.heap H [] := by rw [hH]; exact hS
  rw [← hH]
  refine lv_iload_n hx hb dX12_delegate_0 rfl (lv_at hl 1 rfl) ?_
  refine lv_iconst (v := 1) hx hb dX12_delegate_1 (by decide) ?_
  refine lv_bipush (v := 9) hx hb dX12_delegate_2 (by decide) ?_
  refine p_call (va_runS (As := [.int p0, .int 1, .int 9]) (rest := []) ⟨hx, hb, hml, hown, hts⟩ (c_X12_isBetween l D cI cQ cM cR p0 1 9) (va_cwS 3 hts (gS q_1214 q_1215 q_76 q_1216) rfl rfl rfl (by decide +kernel) ⟨Nat.le_of_ble_eq_true rfl, Nat.le_of_ble_eq_true rfl⟩) ⟨PP_blind, PP_of hK (hP.sub [] rfl)⟩ rfl rfl hl.1 rfl (lv_room (Nat.le_of_ble_eq_true rfl)) dX12_delegate_4 ⟨Nat.le_of_ble_eq_true rfl, Nat.le_of_ble_eq_true rfl⟩) ?_
  refine lv_if_ne (tgt := 13) hx hb dX12_delegate_7 (by decide) (fun c_1 => ?_) (fun c_1 => ?_)
  · refine lv_aload_n hx hb dX12_delegate_13 rfl (lv_at hl 0 rfl) ?_
    refine va_get (D := D) (ci := 12) (v := .int 0) (C := RX12) (T := TX12) (N := 63) hx hb hts in_X12 hown hK hP 0 rfl rfl 3 (by decide) (hts _ q_1023) (fun _ h9 => h9) rfl dX12_delegate_14 ?_
    refine lv_bipush (v := 12) hx hb dX12_delegate_17 (by decide) ?_
    refine lv_icmp_ne (tgt := 25) hx hb dX12_delegate_19 (by decide) (fun _ => ?_) (fun c9 => absurd c9 (by decide))
    refine lv_aload_n hx hb dX12_delegate_25 rfl (lv_at hl 0 rfl) ?_
    refine va_get (D := D) (ci := 12) (v := .ref gweight) (C := RX12) (T := TX12) (N := 63) hx hb hts in_X12 hown hK hP 0 rfl rfl 0 (by decide) (hts _ q_1020) (fun _ h9 => h9) rfl dX12_delegate_26 ?_
    refine lv_aload_n hx hb dX12_delegate_29 rfl (lv_at hl 0 rfl) ?_
    refine va_get (D := D) (ci := 12) (v := .int 0) (C := RX12) (T := TX12) (N := 63) hx hb hts in_X12 hown hK hP 0 rfl rfl 3 (by decide) (hts _ q_1023) (fun _ h9 => h9) rfl dX12_delegate_30 ?_
    refine lv_iload_n hx hb dX12_delegate_33 rfl (lv_at hl 1 rfl) ?_
    refine va_iast hx hb hK hP hD hS 1 0 rfl rfl (i := 0) (by unfold vp_in; decide) dX12_delegate_34 (fun H locs hP hD hS => ?_)
    have hP : va_P D vwCl [(m0, .inr (12, [.ref gweight, .ref gpresent, .ref gspeeches, .int 0, .int 50, .int 0, .int 0, .ref gbuffer, .ref gstate, .ref gplace, .ref gmover, .ref gpart, .ref gamended, .ref gmany, .ref gclause, .ref gfirstMany, .ref gfirstClause, .int 0, .int 0, .int 0, .int (-1), .ref gresolution, .ref gmotion, .ref gaway, .ref gawayMany, .ref gawayOrder, .ref gtable, .ref gcommittee, .int 0, .int 0, .int 0, .int 0, .int 0, .int 0, .int 0, .int 0, .int (-5), .int 0, .int 0, .ref glone, .int 0, .ref gentry, .ref gchange, .int 0, .int (-1), .int 0, .int 0, .ref gyesBy, .ref gnoBy, .int 0, .int 0, .int 0, .int 0, .int 0, .int 0, .ref gdraft, .ref grow, .ref growMany, .ref growFloats, .ref gsaved, .int 0, .int 0, .int 0])), (gweight, .inl (cI, 12, .inl (upd (fun _ => 0) 0 p0))), (gpresent, .inl (cI, 12, .inl (fun _ => 0))), (gspeeches, .inl (cI, 12, .inl (fun _ => 0)))] H := hP
    have hD : va_D A [(m0, .inr (12, [.ref gweight, .ref gpresent, .ref gspeeches, .int 0, .int 50, .int 0, .int 0, .ref gbuffer, .ref gstate, .ref gplace, .ref gmover, .ref gpart, .ref gamended, .ref gmany, .ref gclause, .ref gfirstMany, .ref gfirstClause, .int 0, .int 0, .int 0, .int (-1), .ref gresolution, .ref gmotion, .ref gaway, .ref gawayMany, .ref gawayOrder, .ref gtable, .ref gcommittee, .int 0, .int 0, .int 0, .int 0, .int 0, .int 0, .int 0, .int 0, .int (-5), .int 0, .int 0, .ref glone, .int 0, .ref gentry, .ref gchange, .int 0, .int (-1), .int 0, .int 0, .ref gyesBy, .ref gnoBy, .int 0, .int 0, .int 0, .int 0, .int 0, .int 0, .ref gdraft, .ref grow, .ref growMany, .ref growFloats, .ref gsaved, .int 0, .int 0, .int 0])), (gweight, .inl (cI, 12, .inl (upd (fun _ => 0) 0 p0))), (gpresent, .inl (cI, 12, .inl (fun _ => 0))), (gspeeches, .inl (cI, 12, .inl (fun _ => 0)))] := hD
    refine lv_aload_n hx hb dX12_delegate_35 rfl (lv_at hl 0 rfl) ?_
    refine va_get (D := D) (ci := 12) (v := .ref gpresent) (C := RX12) (T := TX12) (N := 63) hx hb hts in_X12 hown hK hP 0 rfl rfl 1 (by decide) (hts _ q_1021) (fun _ h9 => h9) rfl dX12_delegate_36 ?_
    refine lv_aload_n hx hb dX12_delegate_39 rfl (lv_at hl 0 rfl) ?_
    refine va_get (D := D) (ci := 12) (v := .int 0) (C := RX12) (T := TX12) (N := 63) hx hb hts in_X12 hown hK hP 0 rfl rfl 3 (by decide) (hts _ q_1023) (fun _ h9 => h9) rfl dX12_delegate_40 ?_
    refine lv_iconst (v := 1) hx hb dX12_delegate_43 (by decide) ?_
    refine va_iast hx hb hK hP hD hS 2 0 rfl rfl (i := 0) (by unfold vp_in; decide) dX12_delegate_44 (fun H locs hP hD hS => ?_)
    have hP : va_P D vwCl [(m0, .inr (12, [.ref gweight, .ref gpresent, .ref gspeeches, .int 0, .int 50, .int 0, .int 0, .ref gbuffer, .ref gstate, .ref gplace, .ref gmover, .ref gpart, .ref gamended, .ref gmany, .ref gclause, .ref gfirstMany, .ref gfirstClause, .int 0, .int 0, .int 0, .int (-1), .ref gresolution, .ref gmotion, .ref gaway, .ref gawayMany, .ref gawayOrder, .ref gtable, .ref gcommittee, .int 0, .int 0, .int 0, .int 0, .int 0, .int 0, .int 0, .int 0, .int (-5), .int 0, .int 0, .ref glone, .int 0, .ref gentry, .ref gchange, .int 0, .int (-1), .int 0, .int 0, .ref gyesBy, .ref gnoBy, .int 0, .int 0, .int 0, .int 0, .int 0, .int 0, .ref gdraft, .ref grow, .ref growMany, .ref growFloats, .ref gsaved, .int 0, .int 0, .int 0])), (gweight, .inl (cI, 12, .inl (upd (fun _ => 0) 0 p0))), (gpresent, .inl (cI, 12, .inl (upd (fun _ => 0) 0 1))), (gspeeches, .inl (cI, 12, .inl (fun _ => 0)))] H := hP
    have hD : va_D A [(m0, .inr (12, [.ref gweight, .ref gpresent, .ref gspeeches, .int 0, .int 50, .int 0, .int 0, .ref gbuffer, .ref gstate, .ref gplace, .ref gmover, .ref gpart, .ref gamended, .ref gmany, .ref gclause, .ref gfirstMany, .ref gfirstClause, .int 0, .int 0, .int 0, .int (-1), .ref gresolution, .ref gmotion, .ref gaway, .ref gawayMany, .ref gawayOrder, .ref gtable, .ref gcommittee, .int 0, .int 0, .int 0, .int 0, .int 0, .int 0, .int 0, .int 0, .int (-5), .int 0, .int 0, .ref glone, .int 0, .ref gentry, .ref gchange, .int 0, .int (-1), .int 0, .int 0, .ref gyesBy, .ref gnoBy, .int 0, .int 0, .int 0, .int 0, .int 0, .int 0, .ref gdraft, .ref grow, .ref growMany, .ref growFloats, .ref gsaved, .int 0, .int 0, .int 0])), (gweight, .inl (cI, 12, .inl (upd (fun _ => 0) 0 p0))), (gpresent, .inl (cI, 12, .inl (upd (fun _ => 0) 0 1))), (gspeeches, .inl (cI, 12, .inl (fun _ => 0)))] := hD
    refine lv_aload_n hx hb dX12_delegate_45 rfl (lv_at hl 0 rfl) ?_
    refine va_get (D := D) (ci := 12) (v := .ref gspeeches) (C := RX12) (T := TX12) (N := 63) hx hb hts in_X12 hown hK hP 0 rfl rfl 2 (by decide) (hts _ q_1022) (fun _ h9 => h9) rfl dX12_delegate_46 ?_
    refine lv_aload_n hx hb dX12_delegate_49 rfl (lv_at hl 0 rfl) ?_
    refine va_get (D := D) (ci := 12) (v := .int 0) (C := RX12) (T := TX12) (N := 63) hx hb hts in_X12 hown hK hP 0 rfl rfl 3 (by decide) (hts _ q_1023) (fun _ h9 => h9) rfl dX12_delegate_50 ?_
    refine lv_iconst (v := 0) hx hb dX12_delegate_53 (by decide) ?_
    refine va_iast hx hb hK hP hD hS 3 0 rfl rfl (i := 0) (by unfold vp_in; decide) dX12_delegate_54 (fun H locs hP hD hS => ?_)
    have hP : va_P D vwCl [(m0, .inr (12, [.ref gweight, .ref gpresent, .ref gspeeches, .int 0, .int 50, .int 0, .int 0, .ref gbuffer, .ref gstate, .ref gplace, .ref gmover, .ref gpart, .ref gamended, .ref gmany, .ref gclause, .ref gfirstMany, .ref gfirstClause, .int 0, .int 0, .int 0, .int (-1), .ref gresolution, .ref gmotion, .ref gaway, .ref gawayMany, .ref gawayOrder, .ref gtable, .ref gcommittee, .int 0, .int 0, .int 0, .int 0, .int 0, .int 0, .int 0, .int 0, .int (-5), .int 0, .int 0, .ref glone, .int 0, .ref gentry, .ref gchange, .int 0, .int (-1), .int 0, .int 0, .ref gyesBy, .ref gnoBy, .int 0, .int 0, .int 0, .int 0, .int 0, .int 0, .ref gdraft, .ref grow, .ref growMany, .ref growFloats, .ref gsaved, .int 0, .int 0, .int 0])), (gweight, .inl (cI, 12, .inl (upd (fun _ => 0) 0 p0))), (gpresent, .inl (cI, 12, .inl (upd (fun _ => 0) 0 1))), (gspeeches, .inl (cI, 12, .inl (upd (fun _ => 0) 0 0)))] H := hP
    have hD : va_D A [(m0, .inr (12, [.ref gweight, .ref gpresent, .ref gspeeches, .int 0, .int 50, .int 0, .int 0, .ref gbuffer, .ref gstate, .ref gplace, .ref gmover, .ref gpart, .ref gamended, .ref gmany, .ref gclause, .ref gfirstMany, .ref gfirstClause, .int 0, .int 0, .int 0, .int (-1), .ref gresolution, .ref gmotion, .ref gaway, .ref gawayMany, .ref gawayOrder, .ref gtable, .ref gcommittee, .int 0, .int 0, .int 0, .int 0, .int 0, .int 0, .int 0, .int 0, .int (-5), .int 0, .int 0, .ref glone, .int 0, .ref gentry, .ref gchange, .int 0, .int (-1), .int 0, .int 0, .ref gyesBy, .ref gnoBy, .int 0, .int 0, .int 0, .int 0, .int 0, .int 0, .ref gdraft, .ref grow, .ref growMany, .ref growFloats, .ref gsaved, .int 0, .int 0, .int 0])), (gweight, .inl (cI, 12, .inl (upd (fun _ => 0) 0 p0))), (gpresent, .inl (cI, 12, .inl (upd (fun _ => 0) 0 1))), (gspeeches, .inl (cI, 12, .inl (upd (fun _ => 0) 0 0)))] := hD
    refine lv_aload_n hx hb dX12_delegate_55 rfl (lv_at hl 0 rfl) ?_
    refine lv_dup hx hb dX12_delegate_56 rfl ?_
    refine va_get (D := D) (ci := 12) (v := .int 0) (C := RX12) (T := TX12) (N := 63) hx hb hts in_X12 hown hK hP 0 rfl rfl 3 (by decide) (hts _ q_1023) (fun _ h9 => h9) rfl dX12_delegate_57 ?_
    refine lv_iconst (v := 1) hx hb dX12_delegate_60 (by decide) ?_
    refine lv_iadd hx hb dX12_delegate_61 ?_
    refine lv_cst (v := 1) (by decide) ?_
    refine va_put (D := D) (ci := 12) (v := .int 1) (ty := .int) (C := RX12) (T := TX12) (N := 63) hx hb hts in_X12 tyX12 tyX12_ok nmX12 hown hK hP hD hS 0 rfl rfl 3 (by decide) (hts _ q_1023) (fun _ h9 => h9) rfl (by decide +kernel) rfl rfl (Nat.le_of_ble_eq_true rfl) dX12_delegate_62 (fun H locs hP hD hS => ?_)
    have hP : va_P D vwCl [(m0, .inr (12, [.ref gweight, .ref gpresent, .ref gspeeches, .int 1, .int 50, .int 0, .int 0, .ref gbuffer, .ref gstate, .ref gplace, .ref gmover, .ref gpart, .ref gamended, .ref gmany, .ref gclause, .ref gfirstMany, .ref gfirstClause, .int 0, .int 0, .int 0, .int (-1), .ref gresolution, .ref gmotion, .ref gaway, .ref gawayMany, .ref gawayOrder, .ref gtable, .ref gcommittee, .int 0, .int 0, .int 0, .int 0, .int 0, .int 0, .int 0, .int 0, .int (-5), .int 0, .int 0, .ref glone, .int 0, .ref gentry, .ref gchange, .int 0, .int (-1), .int 0, .int 0, .ref gyesBy, .ref gnoBy, .int 0, .int 0, .int 0, .int 0, .int 0, .int 0, .ref gdraft, .ref grow, .ref growMany, .ref growFloats, .ref gsaved, .int 0, .int 0, .int 0])), (gweight, .inl (cI, 12, .inl (upd (fun _ => 0) 0 p0))), (gpresent, .inl (cI, 12, .inl (upd (fun _ => 0) 0 1))), (gspeeches, .inl (cI, 12, .inl (upd (fun _ => 0) 0 0)))] H := hP
    have hD : va_D A [(m0, .inr (12, [.ref gweight, .ref gpresent, .ref gspeeches, .int 1, .int 50, .int 0, .int 0, .ref gbuffer, .ref gstate, .ref gplace, .ref gmover, .ref gpart, .ref gamended, .ref gmany, .ref gclause, .ref gfirstMany, .ref gfirstClause, .int 0, .int 0, .int 0, .int (-1), .ref gresolution, .ref gmotion, .ref gaway, .ref gawayMany, .ref gawayOrder, .ref gtable, .ref gcommittee, .int 0, .int 0, .int 0, .int 0, .int 0, .int 0, .int 0, .int 0, .int (-5), .int 0, .int 0, .ref glone, .int 0, .ref gentry, .ref gchange, .int 0, .int (-1), .int 0, .int 0, .ref gyesBy, .ref gnoBy, .int 0, .int 0, .int 0, .int 0, .int 0, .int 0, .ref gdraft, .ref grow, .ref growMany, .ref growFloats, .ref gsaved, .int 0, .int 0, .int 0])), (gweight, .inl (cI, 12, .inl (upd (fun _ => 0) 0 p0))), (gpresent, .inl (cI, 12, .inl (upd (fun _ => 0) 0 1))), (gspeeches, .inl (cI, 12, .inl (upd (fun _ => 0) 0 0)))] := hD
    refine lv_aload_n hx hb dX12_delegate_65 rfl (lv_at hl 0 rfl) ?_
    refine va_get (D := D) (ci := 12) (v := .int 1) (C := RX12) (T := TX12) (N := 63) hx hb hts in_X12 hown hK hP 0 rfl rfl 3 (by decide) (hts _ q_1023) (fun _ h9 => h9) rfl dX12_delegate_66 ?_
    refine lv_iconst (v := 1) hx hb dX12_delegate_69 (by decide) ?_
    refine lv_isub hx hb dX12_delegate_70 ?_
    refine lv_cst (v := 0) (by decide) ?_
    refine W.widen (k := 0) (n := 0) (Nat.le_of_ble_eq_true rfl) (Nat.le_of_ble_eq_true rfl) ?_
    exact W.iret hx hb hr (fun t ht hW => ⟨⟨_, (), rfl, by first | rfl | (simp only [sp_delegate, c_1, ↓reduceIte, if_true, if_false, not_true_eq_false, not_false_eq_true]; done) | (simp [sp_delegate, c_1]; done), trivial⟩, hS.F ht⟩) hS.2.2 dX12_delegate_71
  · refine lv_bipush (v := (-2)) hx hb dX12_delegate_10 (by decide) ?_
    refine W.widen (k := 0) (n := 0) (Nat.le_of_ble_eq_true rfl) (Nat.le_of_ble_eq_true rfl) ?_
    exact W.iret hx hb hr (fun t ht hW => ⟨⟨_, (), rfl, by first | rfl | (simp only [sp_delegate, c_1, ↓reduceIte, if_true, if_false, not_true_eq_false, not_false_eq_true]; done) | (simp [sp_delegate, c_1]; done), trivial⟩, hS.F ht⟩) hS.2.2 dX12_delegate_12
theorem dX12_quorum_0 : decode cX12_quorum 0 = .ok (.iload_n 1, 1) := by decide +kernel
theorem dX12_quorum_1 : decode cX12_quorum 1 = .ok (.iconst 0, 1) := by decide +kernel
theorem dX12_quorum_2 : decode cX12_quorum 2 = .ok (.bipush 100, 2) := by decide +kernel
theorem dX12_quorum_4 : decode cX12_quorum 4 = .ok (.invokestatic 130, 3) := by decide +kernel
theorem dX12_quorum_7 : decode cX12_quorum 7 = .ok (.ifCond .ne 6, 3) := by decide +kernel
theorem dX12_quorum_10 : decode cX12_quorum 10 = .ok (.bipush (-2), 2) := by decide +kernel
theorem dX12_quorum_12 : decode cX12_quorum 12 = .ok (.ireturn, 1) := by decide +kernel
theorem dX12_quorum_13 : decode cX12_quorum 13 = .ok (.aload_n 0, 1) := by decide +kernel
theorem dX12_quorum_14 : decode cX12_quorum 14 = .ok (.getfield 21, 3) := by decide +kernel
theorem dX12_quorum_17 : decode cX12_quorum 17 = .ok (.istore_n 2, 1) := by decide +kernel
theorem dX12_quorum_18 : decode cX12_quorum 18 = .ok (.aload_n 0, 1) := by decide +kernel
theorem dX12_quorum_19 : decode cX12_quorum 19 = .ok (.iload_n 1, 1) := by decide +kernel
theorem dX12_quorum_20 : decode cX12_quorum 20 = .ok (.putfield 21, 3) := by decide +kernel
theorem dX12_quorum_23 : decode cX12_quorum 23 = .ok (.iload_n 2, 1) := by decide +kernel
theorem dX12_quorum_24 : decode cX12_quorum 24 = .ok (.ireturn, 1) := by decide +kernel
set_option maxHeartbeats 4000000 in
set_option maxRecDepth 100000 in
theorem c_X12_quorum (l : Launch) (D : va_G) (cI cQ cM cR : ClassId) (m0 : Nat) (gweight : Nat) (gpresent : Nat) (gspeeches : Nat) (gbuffer : Nat) (gstate : Nat) (gplace : Nat) (gmover : Nat) (gpart : Nat) (gamended : Nat) (gmany : Nat) (gclause : Nat) (gfirstMany : Nat) (gfirstClause : Nat) (gresolution : Nat) (gmotion : Nat) (gaway : Nat) (gawayMany : Nat) (gawayOrder : Nat) (gtable : Nat) (gcommittee : Nat) (glone : Nat) (gentry : Nat) (gchange : Nat) (gyesBy : Nat) (gnoBy : Nat) (gdraft : Nat) (grow : Nat) (growMany : Nat) (growFloats : Nat) (gsaved : Nat) (p0 : Int32) (sz : Nat) : Met l yX12_quorum (ws_ yX12_quorum cX12_quorum 3 (some .int)) ({ frames := 1, cells := 0, slots := 0, locals := 22 }) (PW D cI cQ cM cR [.ref m0, .int p0] [(m0, .inr (12, [.ref gweight, .ref gpresent, .ref gspeeches, .int 0, .int 50, .int 0, .int 0, .ref gbuffer, .ref gstate, .ref gplace, .ref gmover, .ref gpart, .ref gamended, .ref gmany, .ref gclause, .ref gfirstMany, .ref gfirstClause, .int 0, .int 0, .int 0, .int (-1), .ref gresolution, .ref gmotion, .ref gaway, .ref gawayMany, .ref gawayOrder, .ref gtable, .ref gcommittee, .int 0, .int 0, .int 0, .int 0, .int 0, .int 0, .int 0, .int 0, .int (-5), .int 0, .int 0, .ref glone, .int 0, .ref gentry, .ref gchange, .int 0, .int (-1), .int 0, .int 0, .ref gyesBy, .ref gnoBy, .int 0, .int 0, .int 0, .int 0, .int 0, .int 0, .ref gdraft, .ref grow, .ref growMany, .ref growFloats, .ref gsaved, .int 0, .int 0, .int 0]))] sz) (va_Qi (fun (r : Int32) (_ : Unit) => r = (sp_quorum p0)) (fun (_ : Unit) (_ : State) => True) (va_A [(m0, .inr (12, [.ref gweight, .ref gpresent, .ref gspeeches, .int 0, .int 50, .int 0, .int 0, .ref gbuffer, .ref gstate, .ref gplace, .ref gmover, .ref gpart, .ref gamended, .ref gmany, .ref gclause, .ref gfirstMany, .ref gfirstClause, .int 0, .int 0, .int 0, .int (-1), .ref gresolution, .ref gmotion, .ref gaway, .ref gawayMany, .ref gawayOrder, .ref gtable, .ref gcommittee, .int 0, .int 0, .int 0, .int 0, .int 0, .int 0, .int 0, .int 0, .int (-5), .int 0, .int 0, .ref glone, .int 0, .ref gentry, .ref gchange, .int 0, .int (-1), .int 0, .int 0, .ref gyesBy, .ref gnoBy, .int 0, .int 0, .int 0, .int 0, .int 0, .int 0, .ref gdraft, .ref grow, .ref growMany, .ref growFloats, .ref gsaved, .int 0, .int 0, .int 0]))] sz)) 0 0 (va_A [(m0, .inr (12, [.ref gweight, .ref gpresent, .ref gspeeches, .int 0, .int 50, .int 0, .int 0, .ref gbuffer, .ref gstate, .ref gplace, .ref gmover, .ref gpart, .ref gamended, .ref gmany, .ref gclause, .ref gfirstMany, .ref gfirstClause, .int 0, .int 0, .int 0, .int (-1), .ref gresolution, .ref gmotion, .ref gaway, .ref gawayMany, .ref gawayOrder, .ref gtable, .ref gcommittee, .int 0, .int 0, .int 0, .int 0, .int 0, .int 0, .int 0, .int 0, .int (-5), .int 0, .int 0, .ref glone, .int 0, .ref gentry, .ref gchange, .int 0, .int (-1), .int 0, .int 0, .ref gyesBy, .ref gnoBy, .int 0, .int 0, .int 0, .int 0, .int 0, .int 0, .ref gdraft, .ref grow, .ref growMany, .ref growFloats, .ref gsaved, .int 0, .int 0, .int 0]))] sz) := by
  refine Met.ofW (cc := cX12_quorum) (maxL := 3) (ret := (some .int)) (by decide) rfl ?_
  intro p e s m args below meth c s₁ B hml hv
  obtain ⟨rfl, hsz, hP, hK, hD0⟩ := hv
  have hx := B.exec
  have hb := B.bytes
  have hr := B.returns
  have hts : ∀ w ∈ lw_all, w.before _ s = true := fun w h => atoms_spec (ws := (ws_ yX12_quorum cX12_quorum 3 (some .int))) B.pre w (List.mem_cons_of_mem _ h)
  have hown : s.vm.findClass RX12 = some m.cls := findClass_of_methodNamed B.named
  have hlocks := B.notSynchronized
  subst hsz
  have hD := hD0.self (sz := s.heap.size)
  generalize hAe : va_A [(m0, .inr (12, [.ref gweight, .ref gpresent, .ref gspeeches, .int 0, .int 50, .int 0, .int 0, .ref gbuffer, .ref gstate, .ref gplace, .ref gmover, .ref gpart, .ref gamended, .ref gmany, .ref gclause, .ref gfirstMany, .ref gfirstClause, .int 0, .int 0, .int 0, .int (-1), .ref gresolution, .ref gmotion, .ref gaway, .ref gawayMany, .ref gawayOrder, .ref gtable, .ref gcommittee, .int 0, .int 0, .int 0, .int 0, .int 0, .int 0, .int 0, .int 0, .int (-5), .int 0, .int 0, .ref glone, .int 0, .ref gentry, .ref gchange, .int 0, .int (-1), .int 0, .int 0, .ref gyesBy, .ref gnoBy, .int 0, .int 0, .int 0, .int 0, .int 0, .int 0, .ref gdraft, .ref grow, .ref growMany, .ref growFloats, .ref gsaved, .int 0, .int 0, .int 0]))] s.heap.size = A at hD ⊢
  have hA : ∀ q : Nat, s.heap.size ≤ q → A q := fun q h => by rw [← hAe]; exact Or.inr h
  have hS : va_S A s.heap s.heap [] := va_S.rf
  have hP : va_P D vwCl [(m0, .inr (12, [.ref gweight, .ref gpresent, .ref gspeeches, .int 0, .int 50, .int 0, .int 0, .ref gbuffer, .ref gstate, .ref gplace, .ref gmover, .ref gpart, .ref gamended, .ref gmany, .ref gclause, .ref gfirstMany, .ref gfirstClause, .int 0, .int 0, .int 0, .int (-1), .ref gresolution, .ref gmotion, .ref gaway, .ref gawayMany, .ref gawayOrder, .ref gtable, .ref gcommittee, .int 0, .int 0, .int 0, .int 0, .int 0, .int 0, .int 0, .int 0, .int (-5), .int 0, .int 0, .ref glone, .int 0, .ref gentry, .ref gchange, .int 0, .int (-1), .int 0, .int 0, .ref gyesBy, .ref gnoBy, .int 0, .int 0, .int 0, .int 0, .int 0, .int 0, .ref gdraft, .ref grow, .ref growMany, .ref growFloats, .ref gsaved, .int 0, .int 0, .int 0]))] s.heap := hP
  have hl := lv_entry ([.ref m0, .int p0]) (n := 3) (Nat.le_of_ble_eq_true rfl)
  rw [lg_entry_eq]
  generalize (lg_sl ([.ref m0, .int p0]) ++ List.replicate (3 - (lg_sl ([.ref m0, .int p0])).length) Slot.unset).toArray = ls at hl ⊢
  have hl : lv_has ls 3 [(0, .ref m0), (1, .int p0)] := hl
  obtain ⟨H, hH⟩ : ∃ H : Heap, H = s.heap := ⟨_, rfl⟩
  rw [← hH] at hP
  have hS : va_S A s.heap H [] := by rw [hH]; exact hS
  rw [← hH]
  refine lv_iload_n hx hb dX12_quorum_0 rfl (lv_at hl 1 rfl) ?_
  refine lv_iconst (v := 0) hx hb dX12_quorum_1 (by decide) ?_
  refine lv_bipush (v := 100) hx hb dX12_quorum_2 (by decide) ?_
  refine p_call (va_runS (As := [.int p0, .int 0, .int 100]) (rest := []) ⟨hx, hb, hml, hown, hts⟩ (c_X12_isBetween l D cI cQ cM cR p0 0 100) (va_cwS 3 hts (gS q_1214 q_1215 q_76 q_1216) rfl rfl rfl (by decide +kernel) ⟨Nat.le_of_ble_eq_true rfl, Nat.le_of_ble_eq_true rfl⟩) ⟨PP_blind, PP_of hK (hP.sub [] rfl)⟩ rfl rfl hl.1 rfl (lv_room (Nat.le_of_ble_eq_true rfl)) dX12_quorum_4 ⟨Nat.le_of_ble_eq_true rfl, Nat.le_of_ble_eq_true rfl⟩) ?_
  refine lv_if_ne (tgt := 13) hx hb dX12_quorum_7 (by decide) (fun c_1 => ?_) (fun c_1 => ?_)
  · refine lv_aload_n hx hb dX12_quorum_13 rfl (lv_at hl 0 rfl) ?_
    refine va_get (D := D) (ci := 12) (v := .int 50) (C := RX12) (T := TX12) (N := 63) hx hb hts in_X12 hown hK hP 0 rfl rfl 4 (by decide) (hts _ q_1024) (fun _ h9 => h9) rfl dX12_quorum_14 ?_
    refine lv_istore_n (lv' := [(2, .int 50), (0, .ref m0), (1, .int p0)]) hx hb dX12_quorum_17 rfl hl (by decide) rfl (fun ls hl => ?_)
    refine lv_aload_n hx hb dX12_quorum_18 rfl (lv_at hl 1 rfl) ?_
    refine lv_iload_n hx hb dX12_quorum_19 rfl (lv_at hl 2 rfl) ?_
    refine va_put (D := D) (ci := 12) (v := .int p0) (ty := .int) (C := RX12) (T := TX12) (N := 63) hx hb hts in_X12 tyX12 tyX12_ok nmX12 hown hK hP hD hS 0 rfl rfl 4 (by decide) (hts _ q_1024) (fun _ h9 => h9) rfl (by decide +kernel) rfl rfl (Nat.le_of_ble_eq_true rfl) dX12_quorum_20 (fun H locs hP hD hS => ?_)
    have hP : va_P D vwCl [(m0, .inr (12, [.ref gweight, .ref gpresent, .ref gspeeches, .int 0, .int p0, .int 0, .int 0, .ref gbuffer, .ref gstate, .ref gplace, .ref gmover, .ref gpart, .ref gamended, .ref gmany, .ref gclause, .ref gfirstMany, .ref gfirstClause, .int 0, .int 0, .int 0, .int (-1), .ref gresolution, .ref gmotion, .ref gaway, .ref gawayMany, .ref gawayOrder, .ref gtable, .ref gcommittee, .int 0, .int 0, .int 0, .int 0, .int 0, .int 0, .int 0, .int 0, .int (-5), .int 0, .int 0, .ref glone, .int 0, .ref gentry, .ref gchange, .int 0, .int (-1), .int 0, .int 0, .ref gyesBy, .ref gnoBy, .int 0, .int 0, .int 0, .int 0, .int 0, .int 0, .ref gdraft, .ref grow, .ref growMany, .ref growFloats, .ref gsaved, .int 0, .int 0, .int 0]))] H := hP
    have hD : va_D A [(m0, .inr (12, [.ref gweight, .ref gpresent, .ref gspeeches, .int 0, .int p0, .int 0, .int 0, .ref gbuffer, .ref gstate, .ref gplace, .ref gmover, .ref gpart, .ref gamended, .ref gmany, .ref gclause, .ref gfirstMany, .ref gfirstClause, .int 0, .int 0, .int 0, .int (-1), .ref gresolution, .ref gmotion, .ref gaway, .ref gawayMany, .ref gawayOrder, .ref gtable, .ref gcommittee, .int 0, .int 0, .int 0, .int 0, .int 0, .int 0, .int 0, .int 0, .int (-5), .int 0, .int 0, .ref glone, .int 0, .ref gentry, .ref gchange, .int 0, .int (-1), .int 0, .int 0, .ref gyesBy, .ref gnoBy, .int 0, .int 0, .int 0, .int 0, .int 0, .int 0, .ref gdraft, .ref grow, .ref growMany, .ref growFloats, .ref gsaved, .int 0, .int 0, .int 0]))] := hD
    refine lv_iload_n hx hb dX12_quorum_23 rfl (lv_at hl 0 rfl) ?_
    refine W.widen (k := 0) (n := 0) (Nat.le_of_ble_eq_true rfl) (Nat.le_of_ble_eq_true rfl) ?_
    exact W.iret hx hb hr (fun t ht hW => ⟨⟨_, (), rfl, by first | rfl | (simp only [sp_quorum, c_1, ↓reduceIte, if_true, if_false, not_true_eq_false, not_false_eq_true]; done) | (simp [sp_quorum, c_1]; done), trivial⟩, hS.F ht⟩) hS.2.2 dX12_quorum_24
  · refine lv_bipush (v := (-2)) hx hb dX12_quorum_10 (by decide) ?_
    refine W.widen (k := 0) (n := 0) (Nat.le_of_ble_eq_true rfl) (Nat.le_of_ble_eq_true rfl) ?_
    exact W.iret hx hb hr (fun t ht hW => ⟨⟨_, (), rfl, by first | rfl | (simp only [sp_quorum, c_1, ↓reduceIte, if_true, if_false, not_true_eq_false, not_false_eq_true]; done) | (simp [sp_quorum, c_1]; done), trivial⟩, hS.F ht⟩) hS.2.2 dX12_quorum_12
theorem dX12_clause_0 : decode cX12_clause 0 = .ok (.iload_n 1, 1) := by decide +kernel
theorem dX12_clause_1 : decode cX12_clause 1 = .ok (.iconst 0, 1) := by decide +kernel
theorem dX12_clause_2 : decode cX12_clause 2 = .ok (.bipush 99, 2) := by decide +kernel
theorem dX12_clause_4 : decode cX12_clause 4 = .ok (.invokestatic 130, 3) := by decide +kernel
theorem dX12_clause_7 : decode cX12_clause 7 = .ok (.ifCond .ne 6, 3) := by decide +kernel
theorem dX12_clause_10 : decode cX12_clause 10 = .ok (.bipush (-2), 2) := by decide +kernel
theorem dX12_clause_12 : decode cX12_clause 12 = .ok (.ireturn, 1) := by decide +kernel
theorem dX12_clause_13 : decode cX12_clause 13 = .ok (.aload_n 0, 1) := by decide +kernel
theorem dX12_clause_14 : decode cX12_clause 14 = .ok (.getfield 141, 3) := by decide +kernel
theorem dX12_clause_17 : decode cX12_clause 17 = .ok (.bipush 8, 2) := by decide +kernel
theorem dX12_clause_19 : decode cX12_clause 19 = .ok (.if_icmp .ne 6, 3) := by decide +kernel
theorem dX12_clause_25 : decode cX12_clause 25 = .ok (.aload_n 0, 1) := by decide +kernel
theorem dX12_clause_26 : decode cX12_clause 26 = .ok (.getfield 25, 3) := by decide +kernel
theorem dX12_clause_29 : decode cX12_clause 29 = .ok (.aload_n 0, 1) := by decide +kernel
theorem dX12_clause_30 : decode cX12_clause 30 = .ok (.getfield 141, 3) := by decide +kernel
theorem dX12_clause_33 : decode cX12_clause 33 = .ok (.iload_n 1, 1) := by decide +kernel
theorem dX12_clause_34 : decode cX12_clause 34 = .ok (.iastore, 1) := by decide +kernel
theorem dX12_clause_35 : decode cX12_clause 35 = .ok (.aload_n 0, 1) := by decide +kernel
theorem dX12_clause_36 : decode cX12_clause 36 = .ok (.dup, 1) := by decide +kernel
theorem dX12_clause_37 : decode cX12_clause 37 = .ok (.getfield 141, 3) := by decide +kernel
theorem dX12_clause_40 : decode cX12_clause 40 = .ok (.iconst 1, 1) := by decide +kernel
theorem dX12_clause_41 : decode cX12_clause 41 = .ok (.iadd, 1) := by decide +kernel
theorem dX12_clause_42 : decode cX12_clause 42 = .ok (.putfield 141, 3) := by decide +kernel
theorem dX12_clause_45 : decode cX12_clause 45 = .ok (.aload_n 0, 1) := by decide +kernel
theorem dX12_clause_46 : decode cX12_clause 46 = .ok (.getfield 141, 3) := by decide +kernel
theorem dX12_clause_49 : decode cX12_clause 49 = .ok (.ireturn, 1) := by decide +kernel
set_option maxRecDepth 100000 in
theorem q_1037 : (.fieldLink RX12 141 "AssemblyChairModel" "buffered" "I") ∈ lw_all := List.mem_filter.mpr ⟨List.mem_of_getElem? (i := 1037) (by decide +kernel), by decide +kernel⟩
set_option maxHeartbeats 4000000 in
set_option maxRecDepth 100000 in
theorem c_X12_clause (l : Launch) (D : va_G) (cI cQ cM cR : ClassId) (m0 : Nat) (gweight : Nat) (gpresent : Nat) (gspeeches : Nat) (gbuffer : Nat) (gstate : Nat) (gplace : Nat) (gmover : Nat) (gpart : Nat) (gamended : Nat) (gmany : Nat) (gclause : Nat) (gfirstMany : Nat) (gfirstClause : Nat) (gresolution : Nat) (gmotion : Nat) (gaway : Nat) (gawayMany : Nat) (gawayOrder : Nat) (gtable : Nat) (gcommittee : Nat) (glone : Nat) (gentry : Nat) (gchange : Nat) (gyesBy : Nat) (gnoBy : Nat) (gdraft : Nat) (grow : Nat) (growMany : Nat) (growFloats : Nat) (gsaved : Nat) (p0 : Int32) (sz : Nat) : Met l yX12_clause (ws_ yX12_clause cX12_clause 2 (some .int)) ({ frames := 1, cells := 0, slots := 0, locals := 22 }) (PW D cI cQ cM cR [.ref m0, .int p0] [(m0, .inr (12, [.ref gweight, .ref gpresent, .ref gspeeches, .int 0, .int 50, .int 0, .int 0, .ref gbuffer, .ref gstate, .ref gplace, .ref gmover, .ref gpart, .ref gamended, .ref gmany, .ref gclause, .ref gfirstMany, .ref gfirstClause, .int 0, .int 0, .int 0, .int (-1), .ref gresolution, .ref gmotion, .ref gaway, .ref gawayMany, .ref gawayOrder, .ref gtable, .ref gcommittee, .int 0, .int 0, .int 0, .int 0, .int 0, .int 0, .int 0, .int 0, .int (-5), .int 0, .int 0, .ref glone, .int 0, .ref gentry, .ref gchange, .int 0, .int (-1), .int 0, .int 0, .ref gyesBy, .ref gnoBy, .int 0, .int 0, .int 0, .int 0, .int 0, .int 0, .ref gdraft, .ref grow, .ref growMany, .ref growFloats, .ref gsaved, .int 0, .int 0, .int 0])), (gbuffer, .inl (cI, 8, .inl (fun _ => 0)))] sz) (va_Qi (fun (r : Int32) (_ : Unit) => r = (sp_clause p0)) (fun (_ : Unit) (_ : State) => True) (va_A [(m0, .inr (12, [.ref gweight, .ref gpresent, .ref gspeeches, .int 0, .int 50, .int 0, .int 0, .ref gbuffer, .ref gstate, .ref gplace, .ref gmover, .ref gpart, .ref gamended, .ref gmany, .ref gclause, .ref gfirstMany, .ref gfirstClause, .int 0, .int 0, .int 0, .int (-1), .ref gresolution, .ref gmotion, .ref gaway, .ref gawayMany, .ref gawayOrder, .ref gtable, .ref gcommittee, .int 0, .int 0, .int 0, .int 0, .int 0, .int 0, .int 0, .int 0, .int (-5), .int 0, .int 0, .ref glone, .int 0, .ref gentry, .ref gchange, .int 0, .int (-1), .int 0, .int 0, .ref gyesBy, .ref gnoBy, .int 0, .int 0, .int 0, .int 0, .int 0, .int 0, .ref gdraft, .ref grow, .ref growMany, .ref growFloats, .ref gsaved, .int 0, .int 0, .int 0])), (gbuffer, .inl (cI, 8, .inl (fun _ => 0)))] sz)) 0 0 (va_A [(m0, .inr (12, [.ref gweight, .ref gpresent, .ref gspeeches, .int 0, .int 50, .int 0, .int 0, .ref gbuffer, .ref gstate, .ref gplace, .ref gmover, .ref gpart, .ref gamended, .ref gmany, .ref gclause, .ref gfirstMany, .ref gfirstClause, .int 0, .int 0, .int 0, .int (-1), .ref gresolution, .ref gmotion, .ref gaway, .ref gawayMany, .ref gawayOrder, .ref gtable, .ref gcommittee, .int 0, .int 0, .int 0, .int 0, .int 0, .int 0, .int 0, .int 0, .int (-5), .int 0, .int 0, .ref glone, .int 0, .ref gentry, .ref gchange, .int 0, .int (-1), .int 0, .int 0, .ref gyesBy, .ref gnoBy, .int 0, .int 0, .int 0, .int 0, .int 0, .int 0, .ref gdraft, .ref grow, .ref growMany, .ref growFloats, .ref gsaved, .int 0, .int 0, .int 0])), (gbuffer, .inl (cI, 8, .inl (fun _ => 0)))] sz) := by
  refine Met.ofW (cc := cX12_clause) (maxL := 2) (ret := (some .int)) (by decide) rfl ?_
  intro p e s m args below meth c s₁ B hml hv
  obtain ⟨rfl, hsz, hP, hK, hD0⟩ := hv
  have hx := B.exec
  have hb := B.bytes
  have hr := B.returns
  have hts : ∀ w ∈ lw_all, w.before _ s = true := fun w h => atoms_spec (ws := (ws_ yX12_clause cX12_clause 2 (some .int))) B.pre w (List.mem_cons_of_mem _ h)
  have hown : s.vm.findClass RX12 = some m.cls := findClass_of_methodNamed B.named
  have hlocks := B.notSynchronized
  subst hsz
  have hD := hD0.self (sz := s.heap.size)
  generalize hAe : va_A [(m0, .inr (12, [.ref gweight, .ref gpresent, .ref gspeeches, .int 0, .int 50, .int 0, .int 0, .ref gbuffer, .ref gstate, .ref gplace, .ref gmover, .ref gpart, .ref gamended, .ref gmany, .ref gclause, .ref gfirstMany, .ref gfirstClause, .int 0, .int 0, .int 0, .int (-1), .ref gresolution, .ref gmotion, .ref gaway, .ref gawayMany, .ref gawayOrder, .ref gtable, .ref gcommittee, .int 0, .int 0, .int 0, .int 0, .int 0, .int 0, .int 0, .int 0, .int (-5), .int 0, .int 0, .ref glone, .int 0, .ref gentry, .ref gchange, .int 0, .int (-1), .int 0, .int 0, .ref gyesBy, .ref gnoBy, .int 0, .int 0, .int 0, .int 0, .int 0, .int 0, .ref gdraft, .ref grow, .ref growMany, .ref growFloats, .ref gsaved, .int 0, .int 0, .int 0])), (gbuffer, .inl (cI, 8, .inl (fun _ => 0)))] s.heap.size = A at hD ⊢
  have hA : ∀ q : Nat, s.heap.size ≤ q → A q := fun q h => by rw [← hAe]; exact Or.inr h
  have hS : va_S A s.heap s.heap [] := va_S.rf
  have hP : va_P D vwCl [(m0, .inr (12, [.ref gweight, .ref gpresent, .ref gspeeches, .int 0, .int 50, .int 0, .int 0, .ref gbuffer, .ref gstate, .ref gplace, .ref gmover, .ref gpart, .ref gamended, .ref gmany, .ref gclause, .ref gfirstMany, .ref gfirstClause, .int 0, .int 0, .int 0, .int (-1), .ref gresolution, .ref gmotion, .ref gaway, .ref gawayMany, .ref gawayOrder, .ref gtable, .ref gcommittee, .int 0, .int 0, .int 0, .int 0, .int 0, .int 0, .int 0, .int 0, .int (-5), .int 0, .int 0, .ref glone, .int 0, .ref gentry, .ref gchange, .int 0, .int (-1), .int 0, .int 0, .ref gyesBy, .ref gnoBy, .int 0, .int 0, .int 0, .int 0, .int 0, .int 0, .ref gdraft, .ref grow, .ref growMany, .ref growFloats, .ref gsaved, .int 0, .int 0, .int 0])), (gbuffer, .inl (cI, 8, .inl (fun _ => 0)))] s.heap := hP
  have hl := lv_entry ([.ref m0, .int p0]) (n := 2) (Nat.le_of_ble_eq_true rfl)
  rw [lg_entry_eq]
  generalize (lg_sl ([.ref m0, .int p0]) ++ List.replicate (2 - (lg_sl ([.ref m0, .int p0])).length) Slot.unset).toArray = ls at hl ⊢
  have hl : lv_has ls 2 [(0, .ref m0), (1, .int p0)] := hl
  obtain ⟨H, hH⟩ : ∃ H : Heap, H = s.heap := ⟨_, rfl⟩
  rw [← hH] at hP
  have hS : va_S A s.heap H [] := by rw [hH]; exact hS
  rw [← hH]
  refine lv_iload_n hx hb dX12_clause_0 rfl (lv_at hl 1 rfl) ?_
  refine lv_iconst (v := 0) hx hb dX12_clause_1 (by decide) ?_
  refine lv_bipush (v := 99) hx hb dX12_clause_2 (by decide) ?_
  refine p_call (va_runS (As := [.int p0, .int 0, .int 99]) (rest := []) ⟨hx, hb, hml, hown, hts⟩ (c_X12_isBetween l D cI cQ cM cR p0 0 99) (va_cwS 3 hts (gS q_1214 q_1215 q_76 q_1216) rfl rfl rfl (by decide +kernel) ⟨Nat.le_of_ble_eq_true rfl, Nat.le_of_ble_eq_true rfl⟩) ⟨PP_blind, PP_of hK (hP.sub [] rfl)⟩ rfl rfl hl.1 rfl (lv_room (Nat.le_of_ble_eq_true rfl)) dX12_clause_4 ⟨Nat.le_of_ble_eq_true rfl, Nat.le_of_ble_eq_true rfl⟩) ?_
  refine lv_if_ne (tgt := 13) hx hb dX12_clause_7 (by decide) (fun c_1 => ?_) (fun c_1 => ?_)
  · refine lv_aload_n hx hb dX12_clause_13 rfl (lv_at hl 0 rfl) ?_
    refine va_get (D := D) (ci := 12) (v := .int 0) (C := RX12) (T := TX12) (N := 63) hx hb hts in_X12 hown hK hP 0 rfl rfl 17 (by decide) (hts _ q_1037) (fun _ h9 => h9) rfl dX12_clause_14 ?_
    refine lv_bipush (v := 8) hx hb dX12_clause_17 (by decide) ?_
    refine lv_icmp_ne (tgt := 25) hx hb dX12_clause_19 (by decide) (fun _ => ?_) (fun c9 => absurd c9 (by decide))
    refine lv_aload_n hx hb dX12_clause_25 rfl (lv_at hl 0 rfl) ?_
    refine va_get (D := D) (ci := 12) (v := .ref gbuffer) (C := RX12) (T := TX12) (N := 63) hx hb hts in_X12 hown hK hP 0 rfl rfl 7 (by decide) (hts _ q_1027) (fun _ h9 => h9) rfl dX12_clause_26 ?_
    refine lv_aload_n hx hb dX12_clause_29 rfl (lv_at hl 0 rfl) ?_
    refine va_get (D := D) (ci := 12) (v := .int 0) (C := RX12) (T := TX12) (N := 63) hx hb hts in_X12 hown hK hP 0 rfl rfl 17 (by decide) (hts _ q_1037) (fun _ h9 => h9) rfl dX12_clause_30 ?_
    refine lv_iload_n hx hb dX12_clause_33 rfl (lv_at hl 1 rfl) ?_
    refine va_iast hx hb hK hP hD hS 1 0 rfl rfl (i := 0) (by unfold vp_in; decide) dX12_clause_34 (fun H locs hP hD hS => ?_)
    have hP : va_P D vwCl [(m0, .inr (12, [.ref gweight, .ref gpresent, .ref gspeeches, .int 0, .int 50, .int 0, .int 0, .ref gbuffer, .ref gstate, .ref gplace, .ref gmover, .ref gpart, .ref gamended, .ref gmany, .ref gclause, .ref gfirstMany, .ref gfirstClause, .int 0, .int 0, .int 0, .int (-1), .ref gresolution, .ref gmotion, .ref gaway, .ref gawayMany, .ref gawayOrder, .ref gtable, .ref gcommittee, .int 0, .int 0, .int 0, .int 0, .int 0, .int 0, .int 0, .int 0, .int (-5), .int 0, .int 0, .ref glone, .int 0, .ref gentry, .ref gchange, .int 0, .int (-1), .int 0, .int 0, .ref gyesBy, .ref gnoBy, .int 0, .int 0, .int 0, .int 0, .int 0, .int 0, .ref gdraft, .ref grow, .ref growMany, .ref growFloats, .ref gsaved, .int 0, .int 0, .int 0])), (gbuffer, .inl (cI, 8, .inl (upd (fun _ => 0) 0 p0)))] H := hP
    have hD : va_D A [(m0, .inr (12, [.ref gweight, .ref gpresent, .ref gspeeches, .int 0, .int 50, .int 0, .int 0, .ref gbuffer, .ref gstate, .ref gplace, .ref gmover, .ref gpart, .ref gamended, .ref gmany, .ref gclause, .ref gfirstMany, .ref gfirstClause, .int 0, .int 0, .int 0, .int (-1), .ref gresolution, .ref gmotion, .ref gaway, .ref gawayMany, .ref gawayOrder, .ref gtable, .ref gcommittee, .int 0, .int 0, .int 0, .int 0, .int 0, .int 0, .int 0, .int 0, .int (-5), .int 0, .int 0, .ref glone, .int 0, .ref gentry, .ref gchange, .int 0, .int (-1), .int 0, .int 0, .ref gyesBy, .ref gnoBy, .int 0, .int 0, .int 0, .int 0, .int 0, .int 0, .ref gdraft, .ref grow, .ref growMany, .ref growFloats, .ref gsaved, .int 0, .int 0, .int 0])), (gbuffer, .inl (cI, 8, .inl (upd (fun _ => 0) 0 p0)))] := hD
    refine lv_aload_n hx hb dX12_clause_35 rfl (lv_at hl 0 rfl) ?_
    refine lv_dup hx hb dX12_clause_36 rfl ?_
    refine va_get (D := D) (ci := 12) (v := .int 0) (C := RX12) (T := TX12) (N := 63) hx hb hts in_X12 hown hK hP 0 rfl rfl 17 (by decide) (hts _ q_1037) (fun _ h9 => h9) rfl dX12_clause_37 ?_
    refine lv_iconst (v := 1) hx hb dX12_clause_40 (by decide) ?_
    refine lv_iadd hx hb dX12_clause_41 ?_
    refine lv_cst (v := 1) (by decide) ?_
    refine va_put (D := D) (ci := 12) (v := .int 1) (ty := .int) (C := RX12) (T := TX12) (N := 63) hx hb hts in_X12 tyX12 tyX12_ok nmX12 hown hK hP hD hS 0 rfl rfl 17 (by decide) (hts _ q_1037) (fun _ h9 => h9) rfl (by decide +kernel) rfl rfl (Nat.le_of_ble_eq_true rfl) dX12_clause_42 (fun H locs hP hD hS => ?_)
    have hP : va_P D vwCl [(m0, .inr (12, [.ref gweight, .ref gpresent, .ref gspeeches, .int 0, .int 50, .int 0, .int 0, .ref gbuffer, .ref gstate, .ref gplace, .ref gmover, .ref gpart, .ref gamended, .ref gmany, .ref gclause, .ref gfirstMany, .ref gfirstClause, .int 1, .int 0, .int 0, .int (-1), .ref gresolution, .ref gmotion, .ref gaway, .ref gawayMany, .ref gawayOrder, .ref gtable, .ref gcommittee, .int 0, .int 0, .int 0, .int 0, .int 0, .int 0, .int 0, .int 0, .int (-5), .int 0, .int 0, .ref glone, .int 0, .ref gentry, .ref gchange, .int 0, .int (-1), .int 0, .int 0, .ref gyesBy, .ref gnoBy, .int 0, .int 0, .int 0, .int 0, .int 0, .int 0, .ref gdraft, .ref grow, .ref growMany, .ref growFloats, .ref gsaved, .int 0, .int 0, .int 0])), (gbuffer, .inl (cI, 8, .inl (upd (fun _ => 0) 0 p0)))] H := hP
    have hD : va_D A [(m0, .inr (12, [.ref gweight, .ref gpresent, .ref gspeeches, .int 0, .int 50, .int 0, .int 0, .ref gbuffer, .ref gstate, .ref gplace, .ref gmover, .ref gpart, .ref gamended, .ref gmany, .ref gclause, .ref gfirstMany, .ref gfirstClause, .int 1, .int 0, .int 0, .int (-1), .ref gresolution, .ref gmotion, .ref gaway, .ref gawayMany, .ref gawayOrder, .ref gtable, .ref gcommittee, .int 0, .int 0, .int 0, .int 0, .int 0, .int 0, .int 0, .int 0, .int (-5), .int 0, .int 0, .ref glone, .int 0, .ref gentry, .ref gchange, .int 0, .int (-1), .int 0, .int 0, .ref gyesBy, .ref gnoBy, .int 0, .int 0, .int 0, .int 0, .int 0, .int 0, .ref gdraft, .ref grow, .ref growMany, .ref growFloats, .ref gsaved, .int 0, .int 0, .int 0])), (gbuffer, .inl (cI, 8, .inl (upd (fun _ => 0) 0 p0)))] := hD
    refine lv_aload_n hx hb dX12_clause_45 rfl (lv_at hl 0 rfl) ?_
    refine va_get (D := D) (ci := 12) (v := .int 1) (C := RX12) (T := TX12) (N := 63) hx hb hts in_X12 hown hK hP 0 rfl rfl 17 (by decide) (hts _ q_1037) (fun _ h9 => h9) rfl dX12_clause_46 ?_
    refine W.widen (k := 0) (n := 0) (Nat.le_of_ble_eq_true rfl) (Nat.le_of_ble_eq_true rfl) ?_
    exact W.iret hx hb hr (fun t ht hW => ⟨⟨_, (), rfl, by first | rfl | (simp only [sp_clause, c_1, ↓reduceIte, if_true, if_false, not_true_eq_false, not_false_eq_true]; done) | (simp [sp_clause, c_1]; done), trivial⟩, hS.F ht⟩) hS.2.2 dX12_clause_49
  · refine lv_bipush (v := (-2)) hx hb dX12_clause_10 (by decide) ?_
    refine W.widen (k := 0) (n := 0) (Nat.le_of_ble_eq_true rfl) (Nat.le_of_ble_eq_true rfl) ?_
    exact W.iret hx hb hr (fun t ht hW => ⟨⟨_, (), rfl, by first | rfl | (simp only [sp_clause, c_1, ↓reduceIte, if_true, if_false, not_true_eq_false, not_false_eq_true]; done) | (simp [sp_clause, c_1]; done), trivial⟩, hS.F ht⟩) hS.2.2 dX12_clause_12
theorem dX12_pass_0 : decode cX12_pass 0 = .ok (.iload_n 1, 1) := by decide +kernel
theorem dX12_pass_1 : decode cX12_pass 1 = .ok (.iconst 1, 1) := by decide +kernel
theorem dX12_pass_2 : decode cX12_pass 2 = .ok (.sipush 500, 3) := by decide +kernel
theorem dX12_pass_5 : decode cX12_pass 5 = .ok (.invokestatic 130, 3) := by decide +kernel
theorem dX12_pass_8 : decode cX12_pass 8 = .ok (.ifCond .ne 6, 3) := by decide +kernel
theorem dX12_pass_11 : decode cX12_pass 11 = .ok (.bipush (-2), 2) := by decide +kernel
theorem dX12_pass_13 : decode cX12_pass 13 = .ok (.ireturn, 1) := by decide +kernel
theorem dX12_pass_14 : decode cX12_pass 14 = .ok (.aload_n 0, 1) := by decide +kernel
theorem dX12_pass_15 : decode cX12_pass 15 = .ok (.getfield 177, 3) := by decide +kernel
theorem dX12_pass_18 : decode cX12_pass 18 = .ok (.iload_n 1, 1) := by decide +kernel
theorem dX12_pass_19 : decode cX12_pass 19 = .ok (.iadd, 1) := by decide +kernel
theorem dX12_pass_20 : decode cX12_pass 20 = .ok (.sipush 9999, 3) := by decide +kernel
theorem dX12_pass_23 : decode cX12_pass 23 = .ok (.if_icmp .le 6, 3) := by decide +kernel
theorem dX12_pass_29 : decode cX12_pass 29 = .ok (.aload_n 0, 1) := by decide +kernel
theorem dX12_pass_30 : decode cX12_pass 30 = .ok (.dup, 1) := by decide +kernel
theorem dX12_pass_31 : decode cX12_pass 31 = .ok (.getfield 177, 3) := by decide +kernel
theorem dX12_pass_34 : decode cX12_pass 34 = .ok (.iload_n 1, 1) := by decide +kernel
theorem dX12_pass_35 : decode cX12_pass 35 = .ok (.iadd, 1) := by decide +kernel
theorem dX12_pass_36 : decode cX12_pass 36 = .ok (.putfield 177, 3) := by decide +kernel
theorem dX12_pass_39 : decode cX12_pass 39 = .ok (.aload_n 0, 1) := by decide +kernel
theorem dX12_pass_40 : decode cX12_pass 40 = .ok (.getfield 177, 3) := by decide +kernel
theorem dX12_pass_43 : decode cX12_pass 43 = .ok (.ireturn, 1) := by decide +kernel
set_option maxHeartbeats 4000000 in
set_option maxRecDepth 100000 in
theorem c_X12_pass (l : Launch) (D : va_G) (cI cQ cM cR : ClassId) (m0 : Nat) (gweight : Nat) (gpresent : Nat) (gspeeches : Nat) (gbuffer : Nat) (gstate : Nat) (gplace : Nat) (gmover : Nat) (gpart : Nat) (gamended : Nat) (gmany : Nat) (gclause : Nat) (gfirstMany : Nat) (gfirstClause : Nat) (gresolution : Nat) (gmotion : Nat) (gaway : Nat) (gawayMany : Nat) (gawayOrder : Nat) (gtable : Nat) (gcommittee : Nat) (glone : Nat) (gentry : Nat) (gchange : Nat) (gyesBy : Nat) (gnoBy : Nat) (gdraft : Nat) (grow : Nat) (growMany : Nat) (growFloats : Nat) (gsaved : Nat) (p0 : Int32) (sz : Nat) : Met l yX12_pass (ws_ yX12_pass cX12_pass 2 (some .int)) ({ frames := 1, cells := 0, slots := 0, locals := 22 }) (PW D cI cQ cM cR [.ref m0, .int p0] [(m0, .inr (12, [.ref gweight, .ref gpresent, .ref gspeeches, .int 0, .int 50, .int 0, .int 0, .ref gbuffer, .ref gstate, .ref gplace, .ref gmover, .ref gpart, .ref gamended, .ref gmany, .ref gclause, .ref gfirstMany, .ref gfirstClause, .int 0, .int 0, .int 0, .int (-1), .ref gresolution, .ref gmotion, .ref gaway, .ref gawayMany, .ref gawayOrder, .ref gtable, .ref gcommittee, .int 0, .int 0, .int 0, .int 0, .int 0, .int 0, .int 0, .int 0, .int (-5), .int 0, .int 0, .ref glone, .int 0, .ref gentry, .ref gchange, .int 0, .int (-1), .int 0, .int 0, .ref gyesBy, .ref gnoBy, .int 0, .int 0, .int 0, .int 0, .int 0, .int 0, .ref gdraft, .ref grow, .ref growMany, .ref growFloats, .ref gsaved, .int 0, .int 0, .int 0]))] sz) (va_Qi (fun (r : Int32) (_ : Unit) => r = (sp_pass p0)) (fun (_ : Unit) (_ : State) => True) (va_A [(m0, .inr (12, [.ref gweight, .ref gpresent, .ref gspeeches, .int 0, .int 50, .int 0, .int 0, .ref gbuffer, .ref gstate, .ref gplace, .ref gmover, .ref gpart, .ref gamended, .ref gmany, .ref gclause, .ref gfirstMany, .ref gfirstClause, .int 0, .int 0, .int 0, .int (-1), .ref gresolution, .ref gmotion, .ref gaway, .ref gawayMany, .ref gawayOrder, .ref gtable, .ref gcommittee, .int 0, .int 0, .int 0, .int 0, .int 0, .int 0, .int 0, .int 0, .int (-5), .int 0, .int 0, .ref glone, .int 0, .ref gentry, .ref gchange, .int 0, .int (-1), .int 0, .int 0, .ref gyesBy, .ref gnoBy, .int 0, .int 0, .int 0, .int 0, .int 0, .int 0, .ref gdraft, .ref grow, .ref growMany, .ref growFloats, .ref gsaved, .int 0, .int 0, .int 0]))] sz)) 0 0 (va_A [(m0, .inr (12, [.ref gweight, .ref gpresent, .ref gspeeches, .int 0, .int 50, .int 0, .int 0, .ref gbuffer, .ref gstate, .ref gplace, .ref gmover, .ref gpart, .ref gamended, .ref gmany, .ref gclause, .ref gfirstMany, .ref gfirstClause, .int 0, .int 0, .int 0, .int (-1), .ref gresolution, .ref gmotion, .ref gaway, .ref gawayMany, .ref gawayOrder, .ref gtable, .ref gcommittee, .int 0, .int 0, .int 0, .int 0, .int 0, .int 0, .int 0, .int 0, .int (-5), .int 0, .int 0, .ref glone, .int 0, .ref gentry, .ref gchange, .int 0, .int (-1), .int 0, .int 0, .ref gyesBy, .ref gnoBy, .int 0, .int 0, .int 0, .int 0, .int 0, .int 0, .ref gdraft, .ref grow, .ref growMany, .ref growFloats, .ref gsaved, .int 0, .int 0, .int 0]))] sz) := by
  refine Met.ofW (cc := cX12_pass) (maxL := 2) (ret := (some .int)) (by decide) rfl ?_
  intro p e s m args below meth c s₁ B hml hv
  obtain ⟨rfl, hsz, hP, hK, hD0⟩ := hv
  have hx := B.exec
  have hb := B.bytes
  have hr := B.returns
  have hts : ∀ w ∈ lw_all, w.before _ s = true := fun w h => atoms_spec (ws := (ws_ yX12_pass cX12_pass 2 (some .int))) B.pre w (List.mem_cons_of_mem _ h)
  have hown : s.vm.findClass RX12 = some m.cls := findClass_of_methodNamed B.named
  have hlocks := B.notSynchronized
  subst hsz
  have hD := hD0.self (sz := s.heap.size)
  generalize hAe : va_A [(m0, .inr (12, [.ref gweight, .ref gpresent, .ref gspeeches, .int 0, .int 50, .int 0, .int 0, .ref gbuffer, .ref gstate, .ref gplace, .ref gmover, .ref gpart, .ref gamended, .ref gmany, .ref gclause, .ref gfirstMany, .ref gfirstClause, .int 0, .int 0, .int 0, .int (-1), .ref gresolution, .ref gmotion, .ref gaway, .ref gawayMany, .ref gawayOrder, .ref gtable, .ref gcommittee, .int 0, .int 0, .int 0, .int 0, .int 0, .int 0, .int 0, .int 0, .int (-5), .int 0, .int 0, .ref glone, .int 0, .ref gentry, .ref gchange, .int 0, .int (-1), .int 0, .int 0, .ref gyesBy, .ref gnoBy, .int 0, .int 0, .int 0, .int 0, .int 0, .int 0, .ref gdraft, .ref grow, .ref growMany, .ref growFloats, .ref gsaved, .int 0, .int 0, .int 0]))] s.heap.size = A at hD ⊢
  have hA : ∀ q : Nat, s.heap.size ≤ q → A q := fun q h => by rw [← hAe]; exact Or.inr h
  have hS : va_S A s.heap s.heap [] := va_S.rf
  have hP : va_P D vwCl [(m0, .inr (12, [.ref gweight, .ref gpresent, .ref gspeeches, .int 0, .int 50, .int 0, .int 0, .ref gbuffer, .ref gstate, .ref gplace, .ref gmover, .ref gpart, .ref gamended, .ref gmany, .ref gclause, .ref gfirstMany, .ref gfirstClause, .int 0, .int 0, .int 0, .int (-1), .ref gresolution, .ref gmotion, .ref gaway, .ref gawayMany, .ref gawayOrder, .ref gtable, .ref gcommittee, .int 0, .int 0, .int 0, .int 0, .int 0, .int 0, .int 0, .int 0, .int (-5), .int 0, .int 0, .ref glone, .int 0, .ref gentry, .ref gchange, .int 0, .int (-1), .int 0, .int 0, .ref gyesBy, .ref gnoBy, .int 0, .int 0, .int 0, .int 0, .int 0, .int 0, .ref gdraft, .ref grow, .ref growMany, .ref growFloats, .ref gsaved, .int 0, .int 0, .int 0]))] s.heap := hP
  have hl := lv_entry ([.ref m0, .int p0]) (n := 2) (Nat.le_of_ble_eq_true rfl)
  rw [lg_entry_eq]
  generalize (lg_sl ([.ref m0, .int p0]) ++ List.replicate (2 - (lg_sl ([.ref m0, .int p0])).length) Slot.unset).toArray = ls at hl ⊢
  have hl : lv_has ls 2 [(0, .ref m0), (1, .int p0)] := hl
  obtain ⟨H, hH⟩ : ∃ H : Heap, H = s.heap := ⟨_, rfl⟩
  rw [← hH] at hP
  have hS : va_S A s.heap H [] := by rw [hH]; exact hS
  rw [← hH]
  refine lv_iload_n hx hb dX12_pass_0 rfl (lv_at hl 1 rfl) ?_
  refine lv_iconst (v := 1) hx hb dX12_pass_1 (by decide) ?_
  refine lv_sipush (v := 500) hx hb dX12_pass_2 (by decide) ?_
  refine p_call (va_runS (As := [.int p0, .int 1, .int 500]) (rest := []) ⟨hx, hb, hml, hown, hts⟩ (c_X12_isBetween l D cI cQ cM cR p0 1 500) (va_cwS 3 hts (gS q_1214 q_1215 q_76 q_1216) rfl rfl rfl (by decide +kernel) ⟨Nat.le_of_ble_eq_true rfl, Nat.le_of_ble_eq_true rfl⟩) ⟨PP_blind, PP_of hK (hP.sub [] rfl)⟩ rfl rfl hl.1 rfl (lv_room (Nat.le_of_ble_eq_true rfl)) dX12_pass_5 ⟨Nat.le_of_ble_eq_true rfl, Nat.le_of_ble_eq_true rfl⟩) ?_
  refine lv_if_ne (tgt := 14) hx hb dX12_pass_8 (by decide) (fun c_1 => ?_) (fun c_1 => ?_)
  · refine lv_aload_n hx hb dX12_pass_14 rfl (lv_at hl 0 rfl) ?_
    refine va_get (D := D) (ci := 12) (v := .int 0) (C := RX12) (T := TX12) (N := 63) hx hb hts in_X12 hown hK hP 0 rfl rfl 5 (by decide) (hts _ q_1025) (fun _ h9 => h9) rfl dX12_pass_15 ?_
    refine lv_iload_n hx hb dX12_pass_18 rfl (lv_at hl 1 rfl) ?_
    refine lv_iadd hx hb dX12_pass_19 ?_
    refine lv_sipush (v := 9999) hx hb dX12_pass_20 (by decide) ?_
    refine lv_icmp_le (tgt := 29) hx hb dX12_pass_23 (by decide) (fun _ => ?_) (fun c9 => absurd (pass_le (btw_hi c_1)) c9)
    refine lv_aload_n hx hb dX12_pass_29 rfl (lv_at hl 0 rfl) ?_
    refine lv_dup hx hb dX12_pass_30 rfl ?_
    refine va_get (D := D) (ci := 12) (v := .int 0) (C := RX12) (T := TX12) (N := 63) hx hb hts in_X12 hown hK hP 0 rfl rfl 5 (by decide) (hts _ q_1025) (fun _ h9 => h9) rfl dX12_pass_31 ?_
    refine lv_iload_n hx hb dX12_pass_34 rfl (lv_at hl 1 rfl) ?_
    refine lv_iadd hx hb dX12_pass_35 ?_
    refine va_put (D := D) (ci := 12) (v := .int (0 + p0)) (ty := .int) (C := RX12) (T := TX12) (N := 63) hx hb hts in_X12 tyX12 tyX12_ok nmX12 hown hK hP hD hS 0 rfl rfl 5 (by decide) (hts _ q_1025) (fun _ h9 => h9) rfl (by decide +kernel) rfl rfl (Nat.le_of_ble_eq_true rfl) dX12_pass_36 (fun H locs hP hD hS => ?_)
    have hP : va_P D vwCl [(m0, .inr (12, [.ref gweight, .ref gpresent, .ref gspeeches, .int 0, .int 50, .int (0 + p0), .int 0, .ref gbuffer, .ref gstate, .ref gplace, .ref gmover, .ref gpart, .ref gamended, .ref gmany, .ref gclause, .ref gfirstMany, .ref gfirstClause, .int 0, .int 0, .int 0, .int (-1), .ref gresolution, .ref gmotion, .ref gaway, .ref gawayMany, .ref gawayOrder, .ref gtable, .ref gcommittee, .int 0, .int 0, .int 0, .int 0, .int 0, .int 0, .int 0, .int 0, .int (-5), .int 0, .int 0, .ref glone, .int 0, .ref gentry, .ref gchange, .int 0, .int (-1), .int 0, .int 0, .ref gyesBy, .ref gnoBy, .int 0, .int 0, .int 0, .int 0, .int 0, .int 0, .ref gdraft, .ref grow, .ref growMany, .ref growFloats, .ref gsaved, .int 0, .int 0, .int 0]))] H := hP
    have hD : va_D A [(m0, .inr (12, [.ref gweight, .ref gpresent, .ref gspeeches, .int 0, .int 50, .int (0 + p0), .int 0, .ref gbuffer, .ref gstate, .ref gplace, .ref gmover, .ref gpart, .ref gamended, .ref gmany, .ref gclause, .ref gfirstMany, .ref gfirstClause, .int 0, .int 0, .int 0, .int (-1), .ref gresolution, .ref gmotion, .ref gaway, .ref gawayMany, .ref gawayOrder, .ref gtable, .ref gcommittee, .int 0, .int 0, .int 0, .int 0, .int 0, .int 0, .int 0, .int 0, .int (-5), .int 0, .int 0, .ref glone, .int 0, .ref gentry, .ref gchange, .int 0, .int (-1), .int 0, .int 0, .ref gyesBy, .ref gnoBy, .int 0, .int 0, .int 0, .int 0, .int 0, .int 0, .ref gdraft, .ref grow, .ref growMany, .ref growFloats, .ref gsaved, .int 0, .int 0, .int 0]))] := hD
    refine lv_aload_n hx hb dX12_pass_39 rfl (lv_at hl 0 rfl) ?_
    refine va_get (D := D) (ci := 12) (v := .int (0 + p0)) (C := RX12) (T := TX12) (N := 63) hx hb hts in_X12 hown hK hP 0 rfl rfl 5 (by decide) (hts _ q_1025) (fun _ h9 => h9) rfl dX12_pass_40 ?_
    refine W.widen (k := 0) (n := 0) (Nat.le_of_ble_eq_true rfl) (Nat.le_of_ble_eq_true rfl) ?_
    exact W.iret hx hb hr (fun t ht hW => ⟨⟨_, (), rfl, by first | rfl | (simp only [sp_pass, c_1, ↓reduceIte, if_true, if_false, not_true_eq_false, not_false_eq_true]; done) | (simp [sp_pass, c_1]; done), trivial⟩, hS.F ht⟩) hS.2.2 dX12_pass_43
  · refine lv_bipush (v := (-2)) hx hb dX12_pass_11 (by decide) ?_
    refine W.widen (k := 0) (n := 0) (Nat.le_of_ble_eq_true rfl) (Nat.le_of_ble_eq_true rfl) ?_
    exact W.iret hx hb hr (fun t ht hW => ⟨⟨_, (), rfl, by first | rfl | (simp only [sp_pass, c_1, ↓reduceIte, if_true, if_false, not_true_eq_false, not_false_eq_true]; done) | (simp [sp_pass, c_1]; done), trivial⟩, hS.F ht⟩) hS.2.2 dX12_pass_13
