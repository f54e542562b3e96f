theorem va_P_nil {D : va_G} {cl : List vw_C} {H : Heap} : va_P D cl [] H := fun k q h => by simp at h
theorem va_D_nil {A : Nat → Prop} : va_D A [] := ⟨fun i j p q h => by simp at h, fun k q h => by simp at h⟩
def sp_delegate (v : Int32) : Int32 := if btw v 1 9 = 0 then -2 else 0
def sp_quorum (v : Int32) : Int32 := if btw v 0 100 = 0 then -2 else 50
def sp_clause (v : Int32) : Int32 := if btw v 0 99 = 0 then -2 else 1
def sp_pass (v : Int32) : Int32 := if btw v 1 500 = 0 then -2 else 0 + v
theorem btw_in {v lo hi : Int32} (h1 : ¬ v < lo) (h2 : ¬ hi < v) : ¬ btw v lo hi = 0 := by
  unfold btw
  rw [if_neg h1, if_neg h2]
  decide
theorem btw_hi {v lo hi : Int32} (h : ¬ btw v lo hi = 0) : ¬ hi < v := fun z => h (btw_gt lo z)
theorem i_nle {a b : Int32} (h : ¬ a ≤ b) : b < a := by
  have h1 : ¬ a.toInt ≤ b.toInt := fun z => h (Int32.le_iff_toInt_le.mpr z)
  exact Int32.lt_iff_toInt_lt.mpr (by omega)
theorem z_add (v : Int32) : 0 + v = v := by
  apply Int32.toBitVec_inj.mp
  show 0#32 + v.toBitVec = v.toBitVec
  simp
theorem pass_le {v : Int32} (h : ¬ (500 : Int32) < v) : 0 + v ≤ (9999 : Int32) := by
  rw [z_add]
  have h1 : ¬ (500 : Int) < v.toInt := fun z => h (Int32.lt_iff_toInt_lt.mpr z)
  exact Int32.le_iff_toInt_le.mpr (show v.toInt ≤ (9999 : Int) by omega)
theorem dX3_setPresent_0 : decode cX3_setPresent 0 = .ok (.iconst 1, 1) := by decide +kernel
theorem dX3_setPresent_1 : decode cX3_setPresent 1 = .ok (.iload_n 1, 1) := by decide +kernel
theorem dX3_setPresent_2 : decode cX3_setPresent 2 = .ok (.ishl, 1) := by decide +kernel
theorem dX3_setPresent_3 : decode cX3_setPresent 3 = .ok (.istore_n 3, 1) := by decide +kernel
theorem dX3_setPresent_4 : decode cX3_setPresent 4 = .ok (.aload_n 0, 1) := by decide +kernel
theorem dX3_setPresent_5 : decode cX3_setPresent 5 = .ok (.iload_n 2, 1) := by decide +kernel
theorem dX3_setPresent_6 : decode cX3_setPresent 6 = .ok (.ifCond .eq 12, 3) := by decide +kernel
theorem dX3_setPresent_9 : decode cX3_setPresent 9 = .ok (.aload_n 0, 1) := by decide +kernel
theorem dX3_setPresent_10 : decode cX3_setPresent 10 = .ok (.getfield 25, 3) := by decide +kernel
theorem dX3_setPresent_13 : decode cX3_setPresent 13 = .ok (.iload_n 3, 1) := by decide +kernel
theorem dX3_setPresent_14 : decode cX3_setPresent 14 = .ok (.ior, 1) := by decide +kernel
theorem dX3_setPresent_15 : decode cX3_setPresent 15 = .ok (.goto 11, 3) := by decide +kernel
theorem dX3_setPresent_26 : decode cX3_setPresent 26 = .ok (.putfield 25, 3) := by decide +kernel
theorem dX3_setPresent_29 : decode cX3_setPresent 29 = .ok (.return_, 1) := by decide +kernel
set_option maxRecDepth 100000 in
theorem q_105 : (.fieldLink RX3 25 "AssemblyChair$House" "present" "I") ∈ lw_all := List.mem_filter.mpr ⟨List.mem_of_getElem? (i := 105) (by decide +kernel), by decide +kernel⟩
set_option maxHeartbeats 4000000 in
set_option maxRecDepth 100000 in
theorem c_X3_setPresent (l : Launch) (D : va_G) (cI cQ cM cR : ClassId) (nho : Nat) (nhw : Nat) (nhs : Nat) (sz : Nat) : Met l yX3_setPresent (ws_ yX3_setPresent cX3_setPresent 4 none) ({ frames := 0, cells := 0, slots := 0, locals := 0 }) (PW D cI cQ cM cR [.ref nho, .int 0, .int 1] [(nho, .inr (3, [.int 1, .int 50, .int 0, .ref nhw, .ref nhs]))] sz) (va_Qv (fun _ => True) (fun (_ : Unit) (t : State) => va_P D vwCl [(nho, .inr (3, [.int 1, .int 50, .int 1, .ref nhw, .ref nhs]))] t.heap ∧ va_D (va_A [(nho, .inr (3, [.int 1, .int 50, .int 0, .ref nhw, .ref nhs]))] sz) [(nho, .inr (3, [.int 1, .int 50, .int 1, .ref nhw, .ref nhs]))]) (va_A [(nho, .inr (3, [.int 1, .int 50, .int 0, .ref nhw, .ref nhs]))] sz)) 0 0 (va_A [(nho, .inr (3, [.int 1, .int 50, .int 0, .ref nhw, .ref nhs]))] sz) := by
  sorry
theorem dX3_admit_0 : decode cX3_admit 0 = .ok (.aload_n 0, 1) := by decide +kernel
theorem dX3_admit_1 : decode cX3_admit 1 = .ok (.getfield 22, 3) := by decide +kernel
theorem dX3_admit_4 : decode cX3_admit 4 = .ok (.istore_n 2, 1) := by decide +kernel
theorem dX3_admit_5 : decode cX3_admit 5 = .ok (.iload_n 2, 1) := by decide +kernel
theorem dX3_admit_6 : decode cX3_admit 6 = .ok (.bipush 12, 2) := by decide +kernel
theorem dX3_admit_8 : decode cX3_admit 8 = .ok (.if_icmp .ge 33, 3) := by decide +kernel
theorem dX3_admit_11 : decode cX3_admit 11 = .ok (.aload_n 0, 1) := by decide +kernel
theorem dX3_admit_12 : decode cX3_admit 12 = .ok (.getfield 15, 3) := by decide +kernel
theorem dX3_admit_15 : decode cX3_admit 15 = .ok (.iload_n 2, 1) := by decide +kernel
theorem dX3_admit_16 : decode cX3_admit 16 = .ok (.iload_n 1, 1) := by decide +kernel
theorem dX3_admit_17 : decode cX3_admit 17 = .ok (.iastore, 1) := by decide +kernel
theorem dX3_admit_18 : decode cX3_admit 18 = .ok (.aload_n 0, 1) := by decide +kernel
theorem dX3_admit_19 : decode cX3_admit 19 = .ok (.getfield 19, 3) := by decide +kernel
theorem dX3_admit_22 : decode cX3_admit 22 = .ok (.iload_n 2, 1) := by decide +kernel
theorem dX3_admit_23 : decode cX3_admit 23 = .ok (.iconst 0, 1) := by decide +kernel
theorem dX3_admit_24 : decode cX3_admit 24 = .ok (.iastore, 1) := by decide +kernel
theorem dX3_admit_25 : decode cX3_admit 25 = .ok (.aload_n 0, 1) := by decide +kernel
theorem dX3_admit_26 : decode cX3_admit 26 = .ok (.dup, 1) := by decide +kernel
theorem dX3_admit_27 : decode cX3_admit 27 = .ok (.getfield 22, 3) := by decide +kernel
theorem dX3_admit_30 : decode cX3_admit 30 = .ok (.iconst 1, 1) := by decide +kernel
theorem dX3_admit_31 : decode cX3_admit 31 = .ok (.iadd, 1) := by decide +kernel
theorem dX3_admit_32 : decode cX3_admit 32 = .ok (.putfield 22, 3) := by decide +kernel
theorem dX3_admit_35 : decode cX3_admit 35 = .ok (.aload_n 0, 1) := by decide +kernel
theorem dX3_admit_36 : decode cX3_admit 36 = .ok (.iload_n 2, 1) := by decide +kernel
theorem dX3_admit_37 : decode cX3_admit 37 = .ok (.iconst 1, 1) := by decide +kernel
theorem dX3_admit_38 : decode cX3_admit 38 = .ok (.invokevirtual 34, 3) := by decide +kernel
theorem dX3_admit_41 : decode cX3_admit 41 = .ok (.iload_n 2, 1) := by decide +kernel
theorem dX3_admit_42 : decode cX3_admit 42 = .ok (.ireturn, 1) := by decide +kernel
set_option maxRecDepth 100000 in
theorem q_439 : (.code yX3_setPresent cX3_setPresent 4 none) ∈ lw_all := List.mem_filter.mpr ⟨List.mem_of_getElem? (i := 439) (rfl), by decide +kernel⟩
set_option maxRecDepth 100000 in
theorem q_437 : (.instanceMethod yX3_setPresent) ∈ lw_all := List.mem_filter.mpr ⟨List.mem_of_getElem? (i := 437) (by decide +kernel), by decide +kernel⟩
set_option maxRecDepth 100000 in
theorem q_436 : (.methodLink RX3 34 yX3_setPresent) ∈ lw_all := List.mem_filter.mpr ⟨List.mem_of_getElem? (i := 436) (by decide +kernel), by decide +kernel⟩
set_option maxRecDepth 100000 in
theorem q_438 : (.selects RX3 yX3_setPresent yX3_setPresent) ∈ lw_all := List.mem_filter.mpr ⟨List.mem_of_getElem? (i := 438) (by decide +kernel), by decide +kernel⟩
set_option maxHeartbeats 4000000 in
set_option maxRecDepth 100000 in
theorem c_X3_admit (l : Launch) (D : va_G) (cI cQ cM cR : ClassId) (nho : Nat) (nhw : Nat) (nhs : Nat) (p0 : Int32) (sz : Nat) : Met l yX3_admit (ws_ yX3_admit cX3_admit 3 (some .int)) ({ frames := 1, cells := 0, slots := 0, locals := 23 }) (PW D cI cQ cM cR [.ref nho, .int p0] [(nho, .inr (3, [.int 0, .int 50, .int 0, .ref nhw, .ref nhs])), (nhw, .inl (cI, 12, .inl (fun _ => 0))), (nhs, .inl (cI, 12, .inl (fun _ => 0)))] sz) (va_Qi (fun (r : Int32) (_ : Unit) => r = 0) (fun (_ : Unit) (_ : State) => True) (va_A [(nho, .inr (3, [.int 0, .int 50, .int 0, .ref nhw, .ref nhs])), (nhw, .inl (cI, 12, .inl (fun _ => 0))), (nhs, .inl (cI, 12, .inl (fun _ => 0)))] sz)) 0 0 (va_A [(nho, .inr (3, [.int 0, .int 50, .int 0, .ref nhw, .ref nhs])), (nhw, .inl (cI, 12, .inl (fun _ => 0))), (nhs, .inl (cI, 12, .inl (fun _ => 0)))] sz) := by
  sorry
theorem dX11_delegate_0 : decode cX11_delegate 0 = .ok (.iload_n 1, 1) := by decide +kernel
theorem dX11_delegate_1 : decode cX11_delegate 1 = .ok (.iconst 1, 1) := by decide +kernel
theorem dX11_delegate_2 : decode cX11_delegate 2 = .ok (.if_icmp .lt 9, 3) := by decide +kernel
theorem dX11_delegate_5 : decode cX11_delegate 5 = .ok (.iload_n 1, 1) := by decide +kernel
theorem dX11_delegate_6 : decode cX11_delegate 6 = .ok (.bipush 9, 2) := by decide +kernel
theorem dX11_delegate_8 : decode cX11_delegate 8 = .ok (.if_icmp .le 6, 3) := by decide +kernel
theorem dX11_delegate_11 : decode cX11_delegate 11 = .ok (.bipush (-2), 2) := by decide +kernel
theorem dX11_delegate_13 : decode cX11_delegate 13 = .ok (.ireturn, 1) := by decide +kernel
theorem dX11_delegate_14 : decode cX11_delegate 14 = .ok (.aload_n 0, 1) := by decide +kernel
theorem dX11_delegate_15 : decode cX11_delegate 15 = .ok (.getfield 12, 3) := by decide +kernel
theorem dX11_delegate_18 : decode cX11_delegate 18 = .ok (.getfield 35, 3) := by decide +kernel
theorem dX11_delegate_21 : decode cX11_delegate 21 = .ok (.getfield 39, 3) := by decide +kernel
theorem dX11_delegate_24 : decode cX11_delegate 24 = .ok (.bipush 12, 2) := by decide +kernel
theorem dX11_delegate_26 : decode cX11_delegate 26 = .ok (.if_icmp .lt 6, 3) := by decide +kernel
theorem dX11_delegate_32 : decode cX11_delegate 32 = .ok (.aload_n 0, 1) := by decide +kernel
theorem dX11_delegate_33 : decode cX11_delegate 33 = .ok (.getfield 12, 3) := by decide +kernel
theorem dX11_delegate_36 : decode cX11_delegate 36 = .ok (.getfield 35, 3) := by decide +kernel
theorem dX11_delegate_39 : decode cX11_delegate 39 = .ok (.iload_n 1, 1) := by decide +kernel
theorem dX11_delegate_40 : decode cX11_delegate 40 = .ok (.invokevirtual 45, 3) := by decide +kernel
theorem dX11_delegate_43 : decode cX11_delegate 43 = .ok (.ireturn, 1) := by decide +kernel
set_option maxRecDepth 100000 in
theorem q_435 : (.code yX3_admit cX3_admit 3 (some .int)) ∈ lw_all := List.mem_filter.mpr ⟨List.mem_of_getElem? (i := 435) (rfl), by decide +kernel⟩
set_option maxRecDepth 100000 in
theorem q_433 : (.instanceMethod yX3_admit) ∈ lw_all := List.mem_filter.mpr ⟨List.mem_of_getElem? (i := 433) (by decide +kernel), by decide +kernel⟩
set_option maxRecDepth 100000 in
theorem q_432 : (.methodLink RX11 45 yX3_admit) ∈ lw_all := List.mem_filter.mpr ⟨List.mem_of_getElem? (i := 432) (by decide +kernel), by decide +kernel⟩
set_option maxRecDepth 100000 in
theorem q_434 : (.selects RX3 yX3_admit yX3_admit) ∈ lw_all := List.mem_filter.mpr ⟨List.mem_of_getElem? (i := 434) (by decide +kernel), by decide +kernel⟩
set_option maxHeartbeats 4000000 in
set_option maxRecDepth 100000 in
theorem c_X11_delegate (l : Launch) (D : va_G) (cI cQ cM cR : ClassId) (x0 : Nat) (nme : Nat) (sme : Nat) (xr : Nat) (xs : Nat) (nho : Nat) (ndk : Nat) (nsh : Nat) (nmi : Nat) (nba : Nat) (nde : Nat) (nbu : Nat) (nhw : Nat) (nhs : Nat) (p0 : Int32) (sz : Nat) : Met l yX11_delegate (ws_ yX11_delegate cX11_delegate 2 (some .int)) ({ frames := 2, cells := 0, slots := 0, locals := 45 }) (PW D cI cQ cM cR [.ref x0, .int p0] [(x0, .inr (11, [.ref nme, .ref sme, .int 0, .ref xr, .ref xs])), (nme, .inr (4, [.ref nho, .ref ndk, .ref nsh, .ref nmi, .ref nba, .ref nde, .ref nbu, .int 1, .int 0, .null, .int 0, .int 0, .int 0])), (nho, .inr (3, [.int 0, .int 50, .int 0, .ref nhw, .ref nhs])), (nhw, .inl (cI, 12, .inl (fun _ => 0))), (nhs, .inl (cI, 12, .inl (fun _ => 0)))] sz) (va_Qi (fun (r : Int32) (_ : Unit) => r = (sp_delegate p0)) (fun (_ : Unit) (_ : State) => True) (va_A [(x0, .inr (11, [.ref nme, .ref sme, .int 0, .ref xr, .ref xs])), (nme, .inr (4, [.ref nho, .ref ndk, .ref nsh, .ref nmi, .ref nba, .ref nde, .ref nbu, .int 1, .int 0, .null, .int 0, .int 0, .int 0])), (nho, .inr (3, [.int 0, .int 50, .int 0, .ref nhw, .ref nhs])), (nhw, .inl (cI, 12, .inl (fun _ => 0))), (nhs, .inl (cI, 12, .inl (fun _ => 0)))] sz)) 0 0 (va_A [(x0, .inr (11, [.ref nme, .ref sme, .int 0, .ref xr, .ref xs])), (nme, .inr (4, [.ref nho, .ref ndk, .ref nsh, .ref nmi, .ref nba, .ref nde, .ref nbu, .int 1, .int 0, .null, .int 0, .int 0, .int 0])), (nho, .inr (3, [.int 0, .int 50, .int 0, .ref nhw, .ref nhs])), (nhw, .inl (cI, 12, .inl (fun _ => 0))), (nhs, .inl (cI, 12, .inl (fun _ => 0)))] sz) := by
  sorry
theorem dX11_quorum_0 : decode cX11_quorum 0 = .ok (.iload_n 1, 1) := by decide +kernel
theorem dX11_quorum_1 : decode cX11_quorum 1 = .ok (.ifCond .lt 9, 3) := by decide +kernel
theorem dX11_quorum_4 : decode cX11_quorum 4 = .ok (.iload_n 1, 1) := by decide +kernel
theorem dX11_quorum_5 : decode cX11_quorum 5 = .ok (.bipush 100, 2) := by decide +kernel
theorem dX11_quorum_7 : decode cX11_quorum 7 = .ok (.if_icmp .le 6, 3) := by decide +kernel
theorem dX11_quorum_10 : decode cX11_quorum 10 = .ok (.bipush (-2), 2) := by decide +kernel
theorem dX11_quorum_12 : decode cX11_quorum 12 = .ok (.ireturn, 1) := by decide +kernel
theorem dX11_quorum_13 : decode cX11_quorum 13 = .ok (.aload_n 0, 1) := by decide +kernel
theorem dX11_quorum_14 : decode cX11_quorum 14 = .ok (.getfield 12, 3) := by decide +kernel
theorem dX11_quorum_17 : decode cX11_quorum 17 = .ok (.getfield 35, 3) := by decide +kernel
theorem dX11_quorum_20 : decode cX11_quorum 20 = .ok (.getfield 64, 3) := by decide +kernel
theorem dX11_quorum_23 : decode cX11_quorum 23 = .ok (.istore_n 2, 1) := by decide +kernel
theorem dX11_quorum_24 : decode cX11_quorum 24 = .ok (.aload_n 0, 1) := by decide +kernel
theorem dX11_quorum_25 : decode cX11_quorum 25 = .ok (.getfield 12, 3) := by decide +kernel
theorem dX11_quorum_28 : decode cX11_quorum 28 = .ok (.getfield 35, 3) := by decide +kernel
theorem dX11_quorum_31 : decode cX11_quorum 31 = .ok (.iload_n 1, 1) := by decide +kernel
theorem dX11_quorum_32 : decode cX11_quorum 32 = .ok (.putfield 64, 3) := by decide +kernel
theorem dX11_quorum_35 : decode cX11_quorum 35 = .ok (.iload_n 2, 1) := by decide +kernel
theorem dX11_quorum_36 : decode cX11_quorum 36 = .ok (.ireturn, 1) := by decide +kernel
set_option maxRecDepth 100000 in
theorem q_104 : (.fieldLink RX11 64 "AssemblyChair$House" "percentage" "I") ∈ lw_all := List.mem_filter.mpr ⟨List.mem_of_getElem? (i := 104) (by decide +kernel), by decide +kernel⟩
set_option maxHeartbeats 4000000 in
set_option maxRecDepth 100000 in
theorem c_X11_quorum (l : Launch) (D : va_G) (cI cQ cM cR : ClassId) (x0 : Nat) (nme : Nat) (sme : Nat) (xr : Nat) (xs : Nat) (nho : Nat) (ndk : Nat) (nsh : Nat) (nmi : Nat) (nba : Nat) (nde : Nat) (nbu : Nat) (nhw : Nat) (nhs : Nat) (p0 : Int32) (sz : Nat) : Met l yX11_quorum (ws_ yX11_quorum cX11_quorum 3 (some .int)) ({ frames := 0, cells := 0, slots := 0, locals := 0 }) (PW D cI cQ cM cR [.ref x0, .int p0] [(x0, .inr (11, [.ref nme, .ref sme, .int 0, .ref xr, .ref xs])), (nme, .inr (4, [.ref nho, .ref ndk, .ref nsh, .ref nmi, .ref nba, .ref nde, .ref nbu, .int 1, .int 0, .null, .int 0, .int 0, .int 0])), (nho, .inr (3, [.int 0, .int 50, .int 0, .ref nhw, .ref nhs]))] sz) (va_Qi (fun (r : Int32) (_ : Unit) => r = (sp_quorum p0)) (fun (_ : Unit) (_ : State) => True) (va_A [(x0, .inr (11, [.ref nme, .ref sme, .int 0, .ref xr, .ref xs])), (nme, .inr (4, [.ref nho, .ref ndk, .ref nsh, .ref nmi, .ref nba, .ref nde, .ref nbu, .int 1, .int 0, .null, .int 0, .int 0, .int 0])), (nho, .inr (3, [.int 0, .int 50, .int 0, .ref nhw, .ref nhs]))] sz)) 0 0 (va_A [(x0, .inr (11, [.ref nme, .ref sme, .int 0, .ref xr, .ref xs])), (nme, .inr (4, [.ref nho, .ref ndk, .ref nsh, .ref nmi, .ref nba, .ref nde, .ref nbu, .int 1, .int 0, .null, .int 0, .int 0, .int 0])), (nho, .inr (3, [.int 0, .int 50, .int 0, .ref nhw, .ref nhs]))] sz) := by
  sorry
theorem dX11_isClause_0 : decode cX11_isClause 0 = .ok (.iload_n 0, 1) := by decide +kernel
theorem dX11_isClause_1 : decode cX11_isClause 1 = .ok (.ifCond .lt 13, 3) := by decide +kernel
theorem dX11_isClause_4 : decode cX11_isClause 4 = .ok (.iload_n 0, 1) := by decide +kernel
theorem dX11_isClause_5 : decode cX11_isClause 5 = .ok (.bipush 99, 2) := by decide +kernel
theorem dX11_isClause_7 : decode cX11_isClause 7 = .ok (.if_icmp .gt 7, 3) := by decide +kernel
theorem dX11_isClause_10 : decode cX11_isClause 10 = .ok (.iconst 1, 1) := by decide +kernel
theorem dX11_isClause_11 : decode cX11_isClause 11 = .ok (.goto 4, 3) := by decide +kernel
theorem dX11_isClause_14 : decode cX11_isClause 14 = .ok (.iconst 0, 1) := by decide +kernel
theorem dX11_isClause_15 : decode cX11_isClause 15 = .ok (.ireturn, 1) := by decide +kernel
set_option maxHeartbeats 4000000 in
set_option maxRecDepth 100000 in
theorem c_X11_isClause (l : Launch) (D : va_G) (cI cQ cM cR : ClassId) (p0 : Int32) : Met l yX11_isClause (ws_ yX11_isClause cX11_isClause 1 (some .boolean)) ({ frames := 0, cells := 0, slots := 0, locals := 0 }) (PP D cI cQ cM cR [.int p0] []) (QP (some (.int (btw p0 0 99)))) 0 0 (fun _ => False) := by
  sorry
theorem dX10_append_0 : decode cX10_append 0 = .ok (.aload_n 0, 1) := by decide +kernel
theorem dX10_append_1 : decode cX10_append 1 = .ok (.getfield 15, 3) := by decide +kernel
theorem dX10_append_4 : decode cX10_append 4 = .ok (.bipush 8, 2) := by decide +kernel
theorem dX10_append_6 : decode cX10_append 6 = .ok (.if_icmp .ge 23, 3) := by decide +kernel
theorem dX10_append_9 : decode cX10_append 9 = .ok (.aload_n 0, 1) := by decide +kernel
theorem dX10_append_10 : decode cX10_append 10 = .ok (.getfield 9, 3) := by decide +kernel
theorem dX10_append_13 : decode cX10_append 13 = .ok (.aload_n 0, 1) := by decide +kernel
theorem dX10_append_14 : decode cX10_append 14 = .ok (.getfield 15, 3) := by decide +kernel
theorem dX10_append_17 : decode cX10_append 17 = .ok (.iload_n 1, 1) := by decide +kernel
theorem dX10_append_18 : decode cX10_append 18 = .ok (.iastore, 1) := by decide +kernel
theorem dX10_append_19 : decode cX10_append 19 = .ok (.aload_n 0, 1) := by decide +kernel
theorem dX10_append_20 : decode cX10_append 20 = .ok (.dup, 1) := by decide +kernel
theorem dX10_append_21 : decode cX10_append 21 = .ok (.getfield 15, 3) := by decide +kernel
theorem dX10_append_24 : decode cX10_append 24 = .ok (.iconst 1, 1) := by decide +kernel
theorem dX10_append_25 : decode cX10_append 25 = .ok (.iadd, 1) := by decide +kernel
theorem dX10_append_26 : decode cX10_append 26 = .ok (.putfield 15, 3) := by decide +kernel
theorem dX10_append_29 : decode cX10_append 29 = .ok (.return_, 1) := by decide +kernel
set_option maxRecDepth 100000 in
theorem q_141 : (.fieldLink RX10 15 "AssemblyChair$Text" "length" "I") ∈ lw_all := List.mem_filter.mpr ⟨List.mem_of_getElem? (i := 141) (by decide +kernel), by decide +kernel⟩
set_option maxHeartbeats 4000000 in
set_option maxRecDepth 100000 in
theorem c_X10_append (l : Launch) (D : va_G) (cI cQ cM cR : ClassId) (nbu : Nat) (nbc : Nat) (p0 : Int32) (sz : Nat) : Met l yX10_append (ws_ yX10_append cX10_append 2 none) ({ frames := 0, cells := 0, slots := 0, locals := 0 }) (PW D cI cQ cM cR [.ref nbu, .int p0] [(nbu, .inr (10, [.int 0, .ref nbc])), (nbc, .inl (cI, 8, .inl (fun _ => 0)))] sz) (va_Qv (fun _ => True) (fun (_ : Unit) (t : State) => va_P D vwCl [(nbu, .inr (10, [.int 1, .ref nbc])), (nbc, .inl (cI, 8, .inl (upd (fun _ => 0) 0 p0)))] t.heap ∧ va_D (va_A [(nbu, .inr (10, [.int 0, .ref nbc])), (nbc, .inl (cI, 8, .inl (fun _ => 0)))] sz) [(nbu, .inr (10, [.int 1, .ref nbc])), (nbc, .inl (cI, 8, .inl (upd (fun _ => 0) 0 p0)))]) (va_A [(nbu, .inr (10, [.int 0, .ref nbc])), (nbc, .inl (cI, 8, .inl (fun _ => 0)))] sz)) 0 0 (va_A [(nbu, .inr (10, [.int 0, .ref nbc])), (nbc, .inl (cI, 8, .inl (fun _ => 0)))] sz) := by
  sorry
theorem dX11_clause_0 : decode cX11_clause 0 = .ok (.iload_n 1, 1) := by decide +kernel
theorem dX11_clause_1 : decode cX11_clause 1 = .ok (.invokestatic 67, 3) := by decide +kernel
theorem dX11_clause_4 : decode cX11_clause 4 = .ok (.ifCond .ne 6, 3) := by decide +kernel
theorem dX11_clause_7 : decode cX11_clause 7 = .ok (.bipush (-2), 2) := by decide +kernel
theorem dX11_clause_9 : decode cX11_clause 9 = .ok (.ireturn, 1) := by decide +kernel
theorem dX11_clause_10 : decode cX11_clause 10 = .ok (.aload_n 0, 1) := by decide +kernel
theorem dX11_clause_11 : decode cX11_clause 11 = .ok (.getfield 12, 3) := by decide +kernel
theorem dX11_clause_14 : decode cX11_clause 14 = .ok (.getfield 70, 3) := by decide +kernel
theorem dX11_clause_17 : decode cX11_clause 17 = .ok (.getfield 73, 3) := by decide +kernel
theorem dX11_clause_20 : decode cX11_clause 20 = .ok (.bipush 8, 2) := by decide +kernel
theorem dX11_clause_22 : decode cX11_clause 22 = .ok (.if_icmp .lt 6, 3) := by decide +kernel
theorem dX11_clause_28 : decode cX11_clause 28 = .ok (.aload_n 0, 1) := by decide +kernel
theorem dX11_clause_29 : decode cX11_clause 29 = .ok (.getfield 12, 3) := by decide +kernel
theorem dX11_clause_32 : decode cX11_clause 32 = .ok (.getfield 70, 3) := by decide +kernel
theorem dX11_clause_35 : decode cX11_clause 35 = .ok (.iload_n 1, 1) := by decide +kernel
theorem dX11_clause_36 : decode cX11_clause 36 = .ok (.invokevirtual 76, 3) := by decide +kernel
theorem dX11_clause_39 : decode cX11_clause 39 = .ok (.aload_n 0, 1) := by decide +kernel
theorem dX11_clause_40 : decode cX11_clause 40 = .ok (.getfield 12, 3) := by decide +kernel
theorem dX11_clause_43 : decode cX11_clause 43 = .ok (.getfield 70, 3) := by decide +kernel
theorem dX11_clause_46 : decode cX11_clause 46 = .ok (.getfield 73, 3) := by decide +kernel
theorem dX11_clause_49 : decode cX11_clause 49 = .ok (.ireturn, 1) := by decide +kernel
set_option maxRecDepth 100000 in
theorem q_474 : (.code yX10_append cX10_append 2 none) ∈ lw_all := List.mem_filter.mpr ⟨List.mem_of_getElem? (i := 474) (rfl), by decide +kernel⟩
set_option maxRecDepth 100000 in
theorem q_470 : (.code yX11_isClause cX11_isClause 1 (some .boolean)) ∈ lw_all := List.mem_filter.mpr ⟨List.mem_of_getElem? (i := 470) (rfl), by decide +kernel⟩
set_option maxRecDepth 100000 in
theorem q_350 : (.fieldLink RX11 70 "AssemblyChair$Meeting" "buffer" "LAssemblyChair$Text;") ∈ lw_all := List.mem_filter.mpr ⟨List.mem_of_getElem? (i := 350) (by decide +kernel), by decide +kernel⟩
set_option maxRecDepth 100000 in
theorem q_142 : (.fieldLink RX11 73 "AssemblyChair$Text" "length" "I") ∈ lw_all := List.mem_filter.mpr ⟨List.mem_of_getElem? (i := 142) (by decide +kernel), by decide +kernel⟩
set_option maxRecDepth 100000 in
theorem q_472 : (.instanceMethod yX10_append) ∈ lw_all := List.mem_filter.mpr ⟨List.mem_of_getElem? (i := 472) (by decide +kernel), by decide +kernel⟩
set_option maxRecDepth 100000 in
theorem q_468 : (.methodLink RX11 67 yX11_isClause) ∈ lw_all := List.mem_filter.mpr ⟨List.mem_of_getElem? (i := 468) (by decide +kernel), by decide +kernel⟩
set_option maxRecDepth 100000 in
theorem q_471 : (.methodLink RX11 76 yX10_append) ∈ lw_all := List.mem_filter.mpr ⟨List.mem_of_getElem? (i := 471) (by decide +kernel), by decide +kernel⟩
set_option maxRecDepth 100000 in
theorem q_473 : (.selects RX10 yX10_append yX10_append) ∈ lw_all := List.mem_filter.mpr ⟨List.mem_of_getElem? (i := 473) (by decide +kernel), by decide +kernel⟩
set_option maxRecDepth 100000 in
theorem q_469 : (.static yX11_isClause) ∈ lw_all := List.mem_filter.mpr ⟨List.mem_of_getElem? (i := 469) (by decide +kernel), by decide +kernel⟩
set_option maxHeartbeats 4000000 in
set_option maxRecDepth 100000 in
theorem c_X11_clause (l : Launch) (D : va_G) (cI cQ cM cR : ClassId) (x0 : Nat) (nme : Nat) (sme : Nat) (xr : Nat) (xs : Nat) (nho : Nat) (ndk : Nat) (nsh : Nat) (nmi : Nat) (nba : Nat) (nde : Nat) (nbu : Nat) (nbc : Nat) (p0 : Int32) (sz : Nat) : Met l yX11_clause (ws_ yX11_clause cX11_clause 2 (some .int)) ({ frames := 1, cells := 0, slots := 0, locals := 21 }) (PW D cI cQ cM cR [.ref x0, .int p0] [(x0, .inr (11, [.ref nme, .ref sme, .int 0, .ref xr, .ref xs])), (nme, .inr (4, [.ref nho, .ref ndk, .ref nsh, .ref nmi, .ref nba, .ref nde, .ref nbu, .int 1, .int 0, .null, .int 0, .int 0, .int 0])), (nbu, .inr (10, [.int 0, .ref nbc])), (nbc, .inl (cI, 8, .inl (fun _ => 0)))] sz) (va_Qi (fun (r : Int32) (_ : Unit) => r = (sp_clause p0)) (fun (_ : Unit) (_ : State) => True) (va_A [(x0, .inr (11, [.ref nme, .ref sme, .int 0, .ref xr, .ref xs])), (nme, .inr (4, [.ref nho, .ref ndk, .ref nsh, .ref nmi, .ref nba, .ref nde, .ref nbu, .int 1, .int 0, .null, .int 0, .int 0, .int 0])), (nbu, .inr (10, [.int 0, .ref nbc])), (nbc, .inl (cI, 8, .inl (fun _ => 0)))] sz)) 0 0 (va_A [(x0, .inr (11, [.ref nme, .ref sme, .int 0, .ref xr, .ref xs])), (nme, .inr (4, [.ref nho, .ref ndk, .ref nsh, .ref nmi, .ref nba, .ref nde, .ref nbu, .int 1, .int 0, .null, .int 0, .int 0, .int 0])), (nbu, .inr (10, [.int 0, .ref nbc])), (nbc, .inl (cI, 8, .inl (fun _ => 0)))] sz) := by
  sorry
theorem dX11_pass_0 : decode cX11_pass 0 = .ok (.iload_n 1, 1) := by decide +kernel
theorem dX11_pass_1 : decode cX11_pass 1 = .ok (.iconst 1, 1) := by decide +kernel
theorem dX11_pass_2 : decode cX11_pass 2 = .ok (.if_icmp .lt 10, 3) := by decide +kernel
theorem dX11_pass_5 : decode cX11_pass 5 = .ok (.iload_n 1, 1) := by decide +kernel
theorem dX11_pass_6 : decode cX11_pass 6 = .ok (.sipush 500, 3) := by decide +kernel
theorem dX11_pass_9 : decode cX11_pass 9 = .ok (.if_icmp .le 6, 3) := by decide +kernel
theorem dX11_pass_12 : decode cX11_pass 12 = .ok (.bipush (-2), 2) := by decide +kernel
theorem dX11_pass_14 : decode cX11_pass 14 = .ok (.ireturn, 1) := by decide +kernel
theorem dX11_pass_15 : decode cX11_pass 15 = .ok (.aload_n 0, 1) := by decide +kernel
theorem dX11_pass_16 : decode cX11_pass 16 = .ok (.getfield 12, 3) := by decide +kernel
theorem dX11_pass_19 : decode cX11_pass 19 = .ok (.getfield 80, 3) := by decide +kernel
theorem dX11_pass_22 : decode cX11_pass 22 = .ok (.iload_n 1, 1) := by decide +kernel
theorem dX11_pass_23 : decode cX11_pass 23 = .ok (.iadd, 1) := by decide +kernel
theorem dX11_pass_24 : decode cX11_pass 24 = .ok (.sipush 9999, 3) := by decide +kernel
theorem dX11_pass_27 : decode cX11_pass 27 = .ok (.if_icmp .le 6, 3) := by decide +kernel
theorem dX11_pass_33 : decode cX11_pass 33 = .ok (.aload_n 0, 1) := by decide +kernel
theorem dX11_pass_34 : decode cX11_pass 34 = .ok (.getfield 12, 3) := by decide +kernel
theorem dX11_pass_37 : decode cX11_pass 37 = .ok (.dup, 1) := by decide +kernel
theorem dX11_pass_38 : decode cX11_pass 38 = .ok (.getfield 80, 3) := by decide +kernel
theorem dX11_pass_41 : decode cX11_pass 41 = .ok (.iload_n 1, 1) := by decide +kernel
theorem dX11_pass_42 : decode cX11_pass 42 = .ok (.iadd, 1) := by decide +kernel
theorem dX11_pass_43 : decode cX11_pass 43 = .ok (.putfield 80, 3) := by decide +kernel
theorem dX11_pass_46 : decode cX11_pass 46 = .ok (.aload_n 0, 1) := by decide +kernel
theorem dX11_pass_47 : decode cX11_pass 47 = .ok (.getfield 12, 3) := by decide +kernel
theorem dX11_pass_50 : decode cX11_pass 50 = .ok (.getfield 80, 3) := by decide +kernel
theorem dX11_pass_53 : decode cX11_pass 53 = .ok (.ireturn, 1) := by decide +kernel
set_option maxHeartbeats 4000000 in
set_option maxRecDepth 100000 in
theorem c_X11_pass (l : Launch) (D : va_G) (cI cQ cM cR : ClassId) (x0 : Nat) (nme : Nat) (sme : Nat) (xr : Nat) (xs : Nat) (nho : Nat) (ndk : Nat) (nsh : Nat) (nmi : Nat) (nba : Nat) (nde : Nat) (nbu : Nat) (p0 : Int32) (sz : Nat) : Met l yX11_pass (ws_ yX11_pass cX11_pass 2 (some .int)) ({ frames := 0, cells := 0, slots := 0, locals := 0 }) (PW D cI cQ cM cR [.ref x0, .int p0] [(x0, .inr (11, [.ref nme, .ref sme, .int 0, .ref xr, .ref xs])), (nme, .inr (4, [.ref nho, .ref ndk, .ref nsh, .ref nmi, .ref nba, .ref nde, .ref nbu, .int 1, .int 0, .null, .int 0, .int 0, .int 0]))] sz) (va_Qi (fun (r : Int32) (_ : Unit) => r = (sp_pass p0)) (fun (_ : Unit) (_ : State) => True) (va_A [(x0, .inr (11, [.ref nme, .ref sme, .int 0, .ref xr, .ref xs])), (nme, .inr (4, [.ref nho, .ref ndk, .ref nsh, .ref nmi, .ref nba, .ref nde, .ref nbu, .int 1, .int 0, .null, .int 0, .int 0, .int 0]))] sz)) 0 0 (va_A [(x0, .inr (11, [.ref nme, .ref sme, .int 0, .ref xr, .ref xs])), (nme, .inr (4, [.ref nho, .ref ndk, .ref nsh, .ref nmi, .ref nba, .ref nde, .ref nbu, .int 1, .int 0, .null, .int 0, .int 0, .int 0]))] sz) := by
  sorry
theorem dX12_delegate_0 : decode cX12_delegate 0 = .ok (.iload_n 1, 1) := by decide +kernel
theorem dX12_delegate_1 : decode cX12_delegate 1 = .ok (.iconst 1, 1) := by decide +kernel
theorem dX12_delegate_2 : decode cX12_delegate 2 = .ok (.bipush 9, 2) := by decide +kernel
theorem dX12_delegate_4 : decode cX12_delegate 4 = .ok (.invokestatic 130, 3) := by decide +kernel
theorem dX12_delegate_7 : decode cX12_delegate 7 = .ok (.ifCond .ne 6, 3) := by decide +kernel
theorem dX12_delegate_10 : decode cX12_delegate 10 = .ok (.bipush (-2), 2) := by decide +kernel
theorem dX12_delegate_12 : decode cX12_delegate 12 = .ok (.ireturn, 1) := by decide +kernel
theorem dX12_delegate_13 : decode cX12_delegate 13 = .ok (.aload_n 0, 1) := by decide +kernel
theorem dX12_delegate_14 : decode cX12_delegate 14 = .ok (.getfield 115, 3) := by decide +kernel
theorem dX12_delegate_17 : decode cX12_delegate 17 = .ok (.bipush 12, 2) := by decide +kernel
theorem dX12_delegate_19 : decode cX12_delegate 19 = .ok (.if_icmp .ne 6, 3) := by decide +kernel
theorem dX12_delegate_25 : decode cX12_delegate 25 = .ok (.aload_n 0, 1) := by decide +kernel
theorem dX12_delegate_26 : decode cX12_delegate 26 = .ok (.getfield 9, 3) := by decide +kernel
theorem dX12_delegate_29 : decode cX12_delegate 29 = .ok (.aload_n 0, 1) := by decide +kernel
theorem dX12_delegate_30 : decode cX12_delegate 30 = .ok (.getfield 115, 3) := by decide +kernel
theorem dX12_delegate_33 : decode cX12_delegate 33 = .ok (.iload_n 1, 1) := by decide +kernel
theorem dX12_delegate_34 : decode cX12_delegate 34 = .ok (.iastore, 1) := by decide +kernel
theorem dX12_delegate_35 : decode cX12_delegate 35 = .ok (.aload_n 0, 1) := by decide +kernel
theorem dX12_delegate_36 : decode cX12_delegate 36 = .ok (.getfield 15, 3) := by decide +kernel
theorem dX12_delegate_39 : decode cX12_delegate 39 = .ok (.aload_n 0, 1) := by decide +kernel
theorem dX12_delegate_40 : decode cX12_delegate 40 = .ok (.getfield 115, 3) := by decide +kernel
theorem dX12_delegate_43 : decode cX12_delegate 43 = .ok (.iconst 1, 1) := by decide +kernel
theorem dX12_delegate_44 : decode cX12_delegate 44 = .ok (.iastore, 1) := by decide +kernel
theorem dX12_delegate_45 : decode cX12_delegate 45 = .ok (.aload_n 0, 1) := by decide +kernel
theorem dX12_delegate_46 : decode cX12_delegate 46 = .ok (.getfield 18, 3) := by decide +kernel
theorem dX12_delegate_49 : decode cX12_delegate 49 = .ok (.aload_n 0, 1) := by decide +kernel
theorem dX12_delegate_50 : decode cX12_delegate 50 = .ok (.getfield 115, 3) := by decide +kernel
theorem dX12_delegate_53 : decode cX12_delegate 53 = .ok (.iconst 0, 1) := by decide +kernel
theorem dX12_delegate_54 : decode cX12_delegate 54 = .ok (.iastore, 1) := by decide +kernel
theorem dX12_delegate_55 : decode cX12_delegate 55 = .ok (.aload_n 0, 1) := by decide +kernel
theorem dX12_delegate_56 : decode cX12_delegate 56 = .ok (.dup, 1) := by decide +kernel
theorem dX12_delegate_57 : decode cX12_delegate 57 = .ok (.getfield 115, 3) := by decide +kernel
theorem dX12_delegate_60 : decode cX12_delegate 60 = .ok (.iconst 1, 1) := by decide +kernel
theorem dX12_delegate_61 : decode cX12_delegate 61 = .ok (.iadd, 1) := by decide +kernel
theorem dX12_delegate_62 : decode cX12_delegate 62 = .ok (.putfield 115, 3) := by decide +kernel
theorem dX12_delegate_65 : decode cX12_delegate 65 = .ok (.aload_n 0, 1) := by decide +kernel
theorem dX12_delegate_66 : decode cX12_delegate 66 = .ok (.getfield 115, 3) := by decide +kernel
theorem dX12_delegate_69 : decode cX12_delegate 69 = .ok (.iconst 1, 1) := by decide +kernel
theorem dX12_delegate_70 : decode cX12_delegate 70 = .ok (.isub, 1) := by decide +kernel
theorem dX12_delegate_71 : decode cX12_delegate 71 = .ok (.ireturn, 1) := by decide +kernel
set_option maxHeartbeats 4000000 in
set_option maxRecDepth 100000 in
theorem c_X12_delegate (l : Launch) (D : va_G) (cI cQ cM cR : ClassId) (m0 : Nat) (gweight : Nat) (gpresent : Nat) (gspeeches : Nat) (gbuffer : Nat) (gstate : Nat) (gplace : Nat) (gmover : Nat) (gpart : Nat) (gamended : Nat) (gmany : Nat) (gclause : Nat) (gfirstMany : Nat) (gfirstClause : Nat) (gresolution : Nat) (gmotion : Nat) (gaway : Nat) (gawayMany : Nat) (gawayOrder : Nat) (gtable : Nat) (gcommittee : Nat) (glone : Nat) (gentry : Nat) (gchange : Nat) (gyesBy : Nat) (gnoBy : Nat) (gdraft : Nat) (grow : Nat) (growMany : Nat) (growFloats : Nat) (gsaved : Nat) (p0 : Int32) (sz : Nat) : Met l yX12_delegate (ws_ yX12_delegate cX12_delegate 2 (some .int)) ({ frames := 1, cells := 0, slots := 0, locals := 22 }) (PW D cI cQ cM cR [.ref m0, .int p0] [(m0, .inr (12, [.ref gweight, .ref gpresent, .ref gspeeches, .int 0, .int 50, .int 0, .int 0, .ref gbuffer, .ref gstate, .ref gplace, .ref gmover, .ref gpart, .ref gamended, .ref gmany, .ref gclause, .ref gfirstMany, .ref gfirstClause, .int 0, .int 0, .int 0, .int (-1), .ref gresolution, .ref gmotion, .ref gaway, .ref gawayMany, .ref gawayOrder, .ref gtable, .ref gcommittee, .int 0, .int 0, .int 0, .int 0, .int 0, .int 0, .int 0, .int 0, .int (-5), .int 0, .int 0, .ref glone, .int 0, .ref gentry, .ref gchange, .int 0, .int (-1), .int 0, .int 0, .ref gyesBy, .ref gnoBy, .int 0, .int 0, .int 0, .int 0, .int 0, .int 0, .ref gdraft, .ref grow, .ref growMany, .ref growFloats, .ref gsaved, .int 0, .int 0, .int 0])), (gweight, .inl (cI, 12, .inl (fun _ => 0))), (gpresent, .inl (cI, 12, .inl (fun _ => 0))), (gspeeches, .inl (cI, 12, .inl (fun _ => 0)))] sz) (va_Qi (fun (r : Int32) (_ : Unit) => r = (sp_delegate p0)) (fun (_ : Unit) (_ : State) => True) (va_A [(m0, .inr (12, [.ref gweight, .ref gpresent, .ref gspeeches, .int 0, .int 50, .int 0, .int 0, .ref gbuffer, .ref gstate, .ref gplace, .ref gmover, .ref gpart, .ref gamended, .ref gmany, .ref gclause, .ref gfirstMany, .ref gfirstClause, .int 0, .int 0, .int 0, .int (-1), .ref gresolution, .ref gmotion, .ref gaway, .ref gawayMany, .ref gawayOrder, .ref gtable, .ref gcommittee, .int 0, .int 0, .int 0, .int 0, .int 0, .int 0, .int 0, .int 0, .int (-5), .int 0, .int 0, .ref glone, .int 0, .ref gentry, .ref gchange, .int 0, .int (-1), .int 0, .int 0, .ref gyesBy, .ref gnoBy, .int 0, .int 0, .int 0, .int 0, .int 0, .int 0, .ref gdraft, .ref grow, .ref growMany, .ref growFloats, .ref gsaved, .int 0, .int 0, .int 0])), (gweight, .inl (cI, 12, .inl (fun _ => 0))), (gpresent, .inl (cI, 12, .inl (fun _ => 0))), (gspeeches, .inl (cI, 12, .inl (fun _ => 0)))] sz)) 0 0 (va_A [(m0, .inr (12, [.ref gweight, .ref gpresent, .ref gspeeches, .int 0, .int 50, .int 0, .int 0, .ref gbuffer, .ref gstate, .ref gplace, .ref gmover, .ref gpart, .ref gamended, .ref gmany, .ref gclause, .ref gfirstMany, .ref gfirstClause, .int 0, .int 0, .int 0, .int (-1), .ref gresolution, .ref gmotion, .ref gaway, .ref gawayMany, .ref gawayOrder, .ref gtable, .ref gcommittee, .int 0, .int 0, .int 0, .int 0, .int 0, .int 0, .int 0, .int 0, .int (-5), .int 0, .int 0, .ref glone, .int 0, .ref gentry, .ref gchange, .int 0, .int (-1), .int 0, .int 0, .ref gyesBy, .ref gnoBy, .int 0, .int 0, .int 0, .int 0, .int 0, .int 0, .ref gdraft, .ref grow, .ref growMany, .ref growFloats, .ref gsaved, .int 0, .int 0, .int 0])), (gweight, .inl (cI, 12, .inl (fun _ => 0))), (gpresent, .inl (cI, 12, .inl (fun _ => 0))), (gspeeches, .inl (cI, 12, .inl (fun _ => 0)))] sz) := by
  sorry
theorem dX12_quorum_0 : decode cX12_quorum 0 = .ok (.iload_n 1, 1) := by decide +kernel
theorem dX12_quorum_1 : decode cX12_quorum 1 = .ok (.iconst 0, 1) := by decide +kernel
theorem dX12_quorum_2 : decode cX12_quorum 2 = .ok (.bipush 100, 2) := by decide +kernel
theorem dX12_quorum_4 : decode cX12_quorum 4 = .ok (.invokestatic 130, 3) := by decide +kernel
theorem dX12_quorum_7 : decode cX12_quorum 7 = .ok (.ifCond .ne 6, 3) := by decide +kernel
theorem dX12_quorum_10 : decode cX12_quorum 10 = .ok (.bipush (-2), 2) := by decide +kernel
theorem dX12_quorum_12 : decode cX12_quorum 12 = .ok (.ireturn, 1) := by decide +kernel
theorem dX12_quorum_13 : decode cX12_quorum 13 = .ok (.aload_n 0, 1) := by decide +kernel
theorem dX12_quorum_14 : decode cX12_quorum 14 = .ok (.getfield 21, 3) := by decide +kernel
theorem dX12_quorum_17 : decode cX12_quorum 17 = .ok (.istore_n 2, 1) := by decide +kernel
theorem dX12_quorum_18 : decode cX12_quorum 18 = .ok (.aload_n 0, 1) := by decide +kernel
theorem dX12_quorum_19 : decode cX12_quorum 19 = .ok (.iload_n 1, 1) := by decide +kernel
theorem dX12_quorum_20 : decode cX12_quorum 20 = .ok (.putfield 21, 3) := by decide +kernel
theorem dX12_quorum_23 : decode cX12_quorum 23 = .ok (.iload_n 2, 1) := by decide +kernel
theorem dX12_quorum_24 : decode cX12_quorum 24 = .ok (.ireturn, 1) := by decide +kernel
set_option maxHeartbeats 4000000 in
set_option maxRecDepth 100000 in
theorem c_X12_quorum (l : Launch) (D : va_G) (cI cQ cM cR : ClassId) (m0 : Nat) (gweight : Nat) (gpresent : Nat) (gspeeches : Nat) (gbuffer : Nat) (gstate : Nat) (gplace : Nat) (gmover : Nat) (gpart : Nat) (gamended : Nat) (gmany : Nat) (gclause : Nat) (gfirstMany : Nat) (gfirstClause : Nat) (gresolution : Nat) (gmotion : Nat) (gaway : Nat) (gawayMany : Nat) (gawayOrder : Nat) (gtable : Nat) (gcommittee : Nat) (glone : Nat) (gentry : Nat) (gchange : Nat) (gyesBy : Nat) (gnoBy : Nat) (gdraft : Nat) (grow : Nat) (growMany : Nat) (growFloats : Nat) (gsaved : Nat) (p0 : Int32) (sz : Nat) : Met l yX12_quorum (ws_ yX12_quorum cX12_quorum 3 (some .int)) ({ frames := 1, cells := 0, slots := 0, locals := 22 }) (PW D cI cQ cM cR [.ref m0, .int p0] [(m0, .inr (12, [.ref gweight, .ref gpresent, .ref gspeeches, .int 0, .int 50, .int 0, .int 0, .ref gbuffer, .ref gstate, .ref gplace, .ref gmover, .ref gpart, .ref gamended, .ref gmany, .ref gclause, .ref gfirstMany, .ref gfirstClause, .int 0, .int 0, .int 0, .int (-1), .ref gresolution, .ref gmotion, .ref gaway, .ref gawayMany, .ref gawayOrder, .ref gtable, .ref gcommittee, .int 0, .int 0, .int 0, .int 0, .int 0, .int 0, .int 0, .int 0, .int (-5), .int 0, .int 0, .ref glone, .int 0, .ref gentry, .ref gchange, .int 0, .int (-1), .int 0, .int 0, .ref gyesBy, .ref gnoBy, .int 0, .int 0, .int 0, .int 0, .int 0, .int 0, .ref gdraft, .ref grow, .ref growMany, .ref growFloats, .ref gsaved, .int 0, .int 0, .int 0]))] sz) (va_Qi (fun (r : Int32) (_ : Unit) => r = (sp_quorum p0)) (fun (_ : Unit) (_ : State) => True) (va_A [(m0, .inr (12, [.ref gweight, .ref gpresent, .ref gspeeches, .int 0, .int 50, .int 0, .int 0, .ref gbuffer, .ref gstate, .ref gplace, .ref gmover, .ref gpart, .ref gamended, .ref gmany, .ref gclause, .ref gfirstMany, .ref gfirstClause, .int 0, .int 0, .int 0, .int (-1), .ref gresolution, .ref gmotion, .ref gaway, .ref gawayMany, .ref gawayOrder, .ref gtable, .ref gcommittee, .int 0, .int 0, .int 0, .int 0, .int 0, .int 0, .int 0, .int 0, .int (-5), .int 0, .int 0, .ref glone, .int 0, .ref gentry, .ref gchange, .int 0, .int (-1), .int 0, .int 0, .ref gyesBy, .ref gnoBy, .int 0, .int 0, .int 0, .int 0, .int 0, .int 0, .ref gdraft, .ref grow, .ref growMany, .ref growFloats, .ref gsaved, .int 0, .int 0, .int 0]))] sz)) 0 0 (va_A [(m0, .inr (12, [.ref gweight, .ref gpresent, .ref gspeeches, .int 0, .int 50, .int 0, .int 0, .ref gbuffer, .ref gstate, .ref gplace, .ref gmover, .ref gpart, .ref gamended, .ref gmany, .ref gclause, .ref gfirstMany, .ref gfirstClause, .int 0, .int 0, .int 0, .int (-1), .ref gresolution, .ref gmotion, .ref gaway, .ref gawayMany, .ref gawayOrder, .ref gtable, .ref gcommittee, .int 0, .int 0, .int 0, .int 0, .int 0, .int 0, .int 0, .int 0, .int (-5), .int 0, .int 0, .ref glone, .int 0, .ref gentry, .ref gchange, .int 0, .int (-1), .int 0, .int 0, .ref gyesBy, .ref gnoBy, .int 0, .int 0, .int 0, .int 0, .int 0, .int 0, .ref gdraft, .ref grow, .ref growMany, .ref growFloats, .ref gsaved, .int 0, .int 0, .int 0]))] sz) := by
  sorry
theorem dX12_clause_0 : decode cX12_clause 0 = .ok (.iload_n 1, 1) := by decide +kernel
theorem dX12_clause_1 : decode cX12_clause 1 = .ok (.iconst 0, 1) := by decide +kernel
theorem dX12_clause_2 : decode cX12_clause 2 = .ok (.bipush 99, 2) := by decide +kernel
theorem dX12_clause_4 : decode cX12_clause 4 = .ok (.invokestatic 130, 3) := by decide +kernel
theorem dX12_clause_7 : decode cX12_clause 7 = .ok (.ifCond .ne 6, 3) := by decide +kernel
theorem dX12_clause_10 : decode cX12_clause 10 = .ok (.bipush (-2), 2) := by decide +kernel
theorem dX12_clause_12 : decode cX12_clause 12 = .ok (.ireturn, 1) := by decide +kernel
theorem dX12_clause_13 : decode cX12_clause 13 = .ok (.aload_n 0, 1) := by decide +kernel
theorem dX12_clause_14 : decode cX12_clause 14 = .ok (.getfield 141, 3) := by decide +kernel
theorem dX12_clause_17 : decode cX12_clause 17 = .ok (.bipush 8, 2) := by decide +kernel
theorem dX12_clause_19 : decode cX12_clause 19 = .ok (.if_icmp .ne 6, 3) := by decide +kernel
theorem dX12_clause_25 : decode cX12_clause 25 = .ok (.aload_n 0, 1) := by decide +kernel
theorem dX12_clause_26 : decode cX12_clause 26 = .ok (.getfield 25, 3) := by decide +kernel
theorem dX12_clause_29 : decode cX12_clause 29 = .ok (.aload_n 0, 1) := by decide +kernel
theorem dX12_clause_30 : decode cX12_clause 30 = .ok (.getfield 141, 3) := by decide +kernel
theorem dX12_clause_33 : decode cX12_clause 33 = .ok (.iload_n 1, 1) := by decide +kernel
theorem dX12_clause_34 : decode cX12_clause 34 = .ok (.iastore, 1) := by decide +kernel
theorem dX12_clause_35 : decode cX12_clause 35 = .ok (.aload_n 0, 1) := by decide +kernel
theorem dX12_clause_36 : decode cX12_clause 36 = .ok (.dup, 1) := by decide +kernel
theorem dX12_clause_37 : decode cX12_clause 37 = .ok (.getfield 141, 3) := by decide +kernel
theorem dX12_clause_40 : decode cX12_clause 40 = .ok (.iconst 1, 1) := by decide +kernel
theorem dX12_clause_41 : decode cX12_clause 41 = .ok (.iadd, 1) := by decide +kernel
theorem dX12_clause_42 : decode cX12_clause 42 = .ok (.putfield 141, 3) := by decide +kernel
theorem dX12_clause_45 : decode cX12_clause 45 = .ok (.aload_n 0, 1) := by decide +kernel
theorem dX12_clause_46 : decode cX12_clause 46 = .ok (.getfield 141, 3) := by decide +kernel
theorem dX12_clause_49 : decode cX12_clause 49 = .ok (.ireturn, 1) := by decide +kernel
set_option maxRecDepth 100000 in
theorem q_1037 : (.fieldLink RX12 141 "AssemblyChairModel" "buffered" "I") ∈ lw_all := List.mem_filter.mpr ⟨List.mem_of_getElem? (i := 1037) (by decide +kernel), by decide +kernel⟩
set_option maxHeartbeats 4000000 in
set_option maxRecDepth 100000 in
theorem c_X12_clause (l : Launch) (D : va_G) (cI cQ cM cR : ClassId) (m0 : Nat) (gweight : Nat) (gpresent : Nat) (gspeeches : Nat) (gbuffer : Nat) (gstate : Nat) (gplace : Nat) (gmover : Nat) (gpart : Nat) (gamended : Nat) (gmany : Nat) (gclause : Nat) (gfirstMany : Nat) (gfirstClause : Nat) (gresolution : Nat) (gmotion : Nat) (gaway : Nat) (gawayMany : Nat) (gawayOrder : Nat) (gtable : Nat) (gcommittee : Nat) (glone : Nat) (gentry : Nat) (gchange : Nat) (gyesBy : Nat) (gnoBy : Nat) (gdraft : Nat) (grow : Nat) (growMany : Nat) (growFloats : Nat) (gsaved : Nat) (p0 : Int32) (sz : Nat) : Met l yX12_clause (ws_ yX12_clause cX12_clause 2 (some .int)) ({ frames := 1, cells := 0, slots := 0, locals := 22 }) (PW D cI cQ cM cR [.ref m0, .int p0] [(m0, .inr (12, [.ref gweight, .ref gpresent, .ref gspeeches, .int 0, .int 50, .int 0, .int 0, .ref gbuffer, .ref gstate, .ref gplace, .ref gmover, .ref gpart, .ref gamended, .ref gmany, .ref gclause, .ref gfirstMany, .ref gfirstClause, .int 0, .int 0, .int 0, .int (-1), .ref gresolution, .ref gmotion, .ref gaway, .ref gawayMany, .ref gawayOrder, .ref gtable, .ref gcommittee, .int 0, .int 0, .int 0, .int 0, .int 0, .int 0, .int 0, .int 0, .int (-5), .int 0, .int 0, .ref glone, .int 0, .ref gentry, .ref gchange, .int 0, .int (-1), .int 0, .int 0, .ref gyesBy, .ref gnoBy, .int 0, .int 0, .int 0, .int 0, .int 0, .int 0, .ref gdraft, .ref grow, .ref growMany, .ref growFloats, .ref gsaved, .int 0, .int 0, .int 0])), (gbuffer, .inl (cI, 8, .inl (fun _ => 0)))] sz) (va_Qi (fun (r : Int32) (_ : Unit) => r = (sp_clause p0)) (fun (_ : Unit) (_ : State) => True) (va_A [(m0, .inr (12, [.ref gweight, .ref gpresent, .ref gspeeches, .int 0, .int 50, .int 0, .int 0, .ref gbuffer, .ref gstate, .ref gplace, .ref gmover, .ref gpart, .ref gamended, .ref gmany, .ref gclause, .ref gfirstMany, .ref gfirstClause, .int 0, .int 0, .int 0, .int (-1), .ref gresolution, .ref gmotion, .ref gaway, .ref gawayMany, .ref gawayOrder, .ref gtable, .ref gcommittee, .int 0, .int 0, .int 0, .int 0, .int 0, .int 0, .int 0, .int 0, .int (-5), .int 0, .int 0, .ref glone, .int 0, .ref gentry, .ref gchange, .int 0, .int (-1), .int 0, .int 0, .ref gyesBy, .ref gnoBy, .int 0, .int 0, .int 0, .int 0, .int 0, .int 0, .ref gdraft, .ref grow, .ref growMany, .ref growFloats, .ref gsaved, .int 0, .int 0, .int 0])), (gbuffer, .inl (cI, 8, .inl (fun _ => 0)))] sz)) 0 0 (va_A [(m0, .inr (12, [.ref gweight, .ref gpresent, .ref gspeeches, .int 0, .int 50, .int 0, .int 0, .ref gbuffer, .ref gstate, .ref gplace, .ref gmover, .ref gpart, .ref gamended, .ref gmany, .ref gclause, .ref gfirstMany, .ref gfirstClause, .int 0, .int 0, .int 0, .int (-1), .ref gresolution, .ref gmotion, .ref gaway, .ref gawayMany, .ref gawayOrder, .ref gtable, .ref gcommittee, .int 0, .int 0, .int 0, .int 0, .int 0, .int 0, .int 0, .int 0, .int (-5), .int 0, .int 0, .ref glone, .int 0, .ref gentry, .ref gchange, .int 0, .int (-1), .int 0, .int 0, .ref gyesBy, .ref gnoBy, .int 0, .int 0, .int 0, .int 0, .int 0, .int 0, .ref gdraft, .ref grow, .ref growMany, .ref growFloats, .ref gsaved, .int 0, .int 0, .int 0])), (gbuffer, .inl (cI, 8, .inl (fun _ => 0)))] sz) := by
  sorry
theorem dX12_pass_0 : decode cX12_pass 0 = .ok (.iload_n 1, 1) := by decide +kernel
theorem dX12_pass_1 : decode cX12_pass 1 = .ok (.iconst 1, 1) := by decide +kernel
theorem dX12_pass_2 : decode cX12_pass 2 = .ok (.sipush 500, 3) := by decide +kernel
theorem dX12_pass_5 : decode cX12_pass 5 = .ok (.invokestatic 130, 3) := by decide +kernel
theorem dX12_pass_8 : decode cX12_pass 8 = .ok (.ifCond .ne 6, 3) := by decide +kernel
theorem dX12_pass_11 : decode cX12_pass 11 = .ok (.bipush (-2), 2) := by decide +kernel
theorem dX12_pass_13 : decode cX12_pass 13 = .ok (.ireturn, 1) := by decide +kernel
theorem dX12_pass_14 : decode cX12_pass 14 = .ok (.aload_n 0, 1) := by decide +kernel
theorem dX12_pass_15 : decode cX12_pass 15 = .ok (.getfield 177, 3) := by decide +kernel
theorem dX12_pass_18 : decode cX12_pass 18 = .ok (.iload_n 1, 1) := by decide +kernel
theorem dX12_pass_19 : decode cX12_pass 19 = .ok (.iadd, 1) := by decide +kernel
theorem dX12_pass_20 : decode cX12_pass 20 = .ok (.sipush 9999, 3) := by decide +kernel
theorem dX12_pass_23 : decode cX12_pass 23 = .ok (.if_icmp .le 6, 3) := by decide +kernel
theorem dX12_pass_29 : decode cX12_pass 29 = .ok (.aload_n 0, 1) := by decide +kernel
theorem dX12_pass_30 : decode cX12_pass 30 = .ok (.dup, 1) := by decide +kernel
theorem dX12_pass_31 : decode cX12_pass 31 = .ok (.getfield 177, 3) := by decide +kernel
theorem dX12_pass_34 : decode cX12_pass 34 = .ok (.iload_n 1, 1) := by decide +kernel
theorem dX12_pass_35 : decode cX12_pass 35 = .ok (.iadd, 1) := by decide +kernel
theorem dX12_pass_36 : decode cX12_pass 36 = .ok (.putfield 177, 3) := by decide +kernel
theorem dX12_pass_39 : decode cX12_pass 39 = .ok (.aload_n 0, 1) := by decide +kernel
theorem dX12_pass_40 : decode cX12_pass 40 = .ok (.getfield 177, 3) := by decide +kernel
theorem dX12_pass_43 : decode cX12_pass 43 = .ok (.ireturn, 1) := by decide +kernel
set_option maxHeartbeats 4000000 in
set_option maxRecDepth 100000 in
theorem c_X12_pass (l : Launch) (D : va_G) (cI cQ cM cR : ClassId) (m0 : Nat) (gweight : Nat) (gpresent : Nat) (gspeeches : Nat) (gbuffer : Nat) (gstate : Nat) (gplace : Nat) (gmover : Nat) (gpart : Nat) (gamended : Nat) (gmany : Nat) (gclause : Nat) (gfirstMany : Nat) (gfirstClause : Nat) (gresolution : Nat) (gmotion : Nat) (gaway : Nat) (gawayMany : Nat) (gawayOrder : Nat) (gtable : Nat) (gcommittee : Nat) (glone : Nat) (gentry : Nat) (gchange : Nat) (gyesBy : Nat) (gnoBy : Nat) (gdraft : Nat) (grow : Nat) (growMany : Nat) (growFloats : Nat) (gsaved : Nat) (p0 : Int32) (sz : Nat) : Met l yX12_pass (ws_ yX12_pass cX12_pass 2 (some .int)) ({ frames := 1, cells := 0, slots := 0, locals := 22 }) (PW D cI cQ cM cR [.ref m0, .int p0] [(m0, .inr (12, [.ref gweight, .ref gpresent, .ref gspeeches, .int 0, .int 50, .int 0, .int 0, .ref gbuffer, .ref gstate, .ref gplace, .ref gmover, .ref gpart, .ref gamended, .ref gmany, .ref gclause, .ref gfirstMany, .ref gfirstClause, .int 0, .int 0, .int 0, .int (-1), .ref gresolution, .ref gmotion, .ref gaway, .ref gawayMany, .ref gawayOrder, .ref gtable, .ref gcommittee, .int 0, .int 0, .int 0, .int 0, .int 0, .int 0, .int 0, .int 0, .int (-5), .int 0, .int 0, .ref glone, .int 0, .ref gentry, .ref gchange, .int 0, .int (-1), .int 0, .int 0, .ref gyesBy, .ref gnoBy, .int 0, .int 0, .int 0, .int 0, .int 0, .int 0, .ref gdraft, .ref grow, .ref growMany, .ref growFloats, .ref gsaved, .int 0, .int 0, .int 0]))] sz) (va_Qi (fun (r : Int32) (_ : Unit) => r = (sp_pass p0)) (fun (_ : Unit) (_ : State) => True) (va_A [(m0, .inr (12, [.ref gweight, .ref gpresent, .ref gspeeches, .int 0, .int 50, .int 0, .int 0, .ref gbuffer, .ref gstate, .ref gplace, .ref gmover, .ref gpart, .ref gamended, .ref gmany, .ref gclause, .ref gfirstMany, .ref gfirstClause, .int 0, .int 0, .int 0, .int (-1), .ref gresolution, .ref gmotion, .ref gaway, .ref gawayMany, .ref gawayOrder, .ref gtable, .ref gcommittee, .int 0, .int 0, .int 0, .int 0, .int 0, .int 0, .int 0, .int 0, .int (-5), .int 0, .int 0, .ref glone, .int 0, .ref gentry, .ref gchange, .int 0, .int (-1), .int 0, .int 0, .ref gyesBy, .ref gnoBy, .int 0, .int 0, .int 0, .int 0, .int 0, .int 0, .ref gdraft, .ref grow, .ref growMany, .ref growFloats, .ref gsaved, .int 0, .int 0, .int 0]))] sz)) 0 0 (va_A [(m0, .inr (12, [.ref gweight, .ref gpresent, .ref gspeeches, .int 0, .int 50, .int 0, .int 0, .ref gbuffer, .ref gstate, .ref gplace, .ref gmover, .ref gpart, .ref gamended, .ref gmany, .ref gclause, .ref gfirstMany, .ref gfirstClause, .int 0, .int 0, .int 0, .int (-1), .ref gresolution, .ref gmotion, .ref gaway, .ref gawayMany, .ref gawayOrder, .ref gtable, .ref gcommittee, .int 0, .int 0, .int 0, .int 0, .int 0, .int 0, .int 0, .int 0, .int (-5), .int 0, .int 0, .ref glone, .int 0, .ref gentry, .ref gchange, .int 0, .int (-1), .int 0, .int 0, .ref gyesBy, .ref gnoBy, .int 0, .int 0, .int 0, .int 0, .int 0, .int 0, .ref gdraft, .ref grow, .ref growMany, .ref growFloats, .ref gsaved, .int 0, .int 0, .int 0]))] sz) := by
  sorry
