theorem dX12_hand_0 : decode cX12_hand 0 = .ok (.aload_n 0, 1) := by decide +kernel
theorem dX12_hand_1 : decode cX12_hand 1 = .ok (.getfield 361, 3) := by decide +kernel
theorem dX12_hand_4 : decode cX12_hand 4 = .ok (.ifCond .eq 7, 3) := by decide +kernel
theorem dX12_hand_7 : decode cX12_hand 7 = .ok (.iload_n 1, 1) := by decide +kernel
theorem dX12_hand_8 : decode cX12_hand 8 = .ok (.goto 12, 3) := by decide +kernel
theorem dX12_hand_20 : decode cX12_hand 20 = .ok (.istore_n 2, 1) := by decide +kernel
theorem dX12_hand_21 : decode cX12_hand 21 = .ok (.aload_n 0, 1) := by decide +kernel
theorem dX12_hand_22 : decode cX12_hand 22 = .ok (.getfield 112, 3) := by decide +kernel
theorem dX12_hand_25 : decode cX12_hand 25 = .ok (.aload_n 0, 1) := by decide +kernel
theorem dX12_hand_26 : decode cX12_hand 26 = .ok (.getfield 365, 3) := by decide +kernel
theorem dX12_hand_29 : decode cX12_hand 29 = .ok (.iload_n 2, 1) := by decide +kernel
theorem dX12_hand_30 : decode cX12_hand 30 = .ok (.iastore, 1) := by decide +kernel
theorem dX12_hand_31 : decode cX12_hand 31 = .ok (.aload_n 0, 1) := by decide +kernel
theorem dX12_hand_32 : decode cX12_hand 32 = .ok (.dup, 1) := by decide +kernel
theorem dX12_hand_33 : decode cX12_hand 33 = .ok (.getfield 365, 3) := by decide +kernel
theorem dX12_hand_36 : decode cX12_hand 36 = .ok (.iconst 1, 1) := by decide +kernel
theorem dX12_hand_37 : decode cX12_hand 37 = .ok (.iadd, 1) := by decide +kernel
theorem dX12_hand_38 : decode cX12_hand 38 = .ok (.putfield 365, 3) := by decide +kernel
theorem dX12_hand_41 : decode cX12_hand 41 = .ok (.iload_n 2, 1) := by decide +kernel
theorem dX12_hand_42 : decode cX12_hand 42 = .ok (.ireturn, 1) := by decide +kernel
set_option maxRecDepth 100000 in
theorem q_1081 : (.fieldLink RX12 361 "AssemblyChairModel" "isKeeping" "Z") ∈ lw_all := List.mem_filter.mpr ⟨List.mem_of_getElem? (i := 1081) (by decide +kernel), by decide +kernel⟩
set_option maxRecDepth 100000 in
theorem q_1082 : (.fieldLink RX12 365 "AssemblyChairModel" "cursor" "I") ∈ lw_all := List.mem_filter.mpr ⟨List.mem_of_getElem? (i := 1082) (by decide +kernel), by decide +kernel⟩
set_option maxHeartbeats 4000000 in
set_option maxRecDepth 100000 in
theorem c_X12_hand (l : Launch) (D : va_G) (cI cQ cM cR : ClassId) (m0 : Nat) (gweight : Nat) (gpresent : Nat) (gspeeches : Nat) (gbuffer : Nat) (gstate : Nat) (gplace : Nat) (gmover : Nat) (gpart : Nat) (gamended : Nat) (gmany : Nat) (gclause : Nat) (gfirstMany : Nat) (gfirstClause : Nat) (gresolution : Nat) (gmotion : Nat) (gaway : Nat) (gawayMany : Nat) (gawayOrder : Nat) (gtable : Nat) (gcommittee : Nat) (glone : Nat) (gentry : Nat) (gchange : Nat) (gyesBy : Nat) (gnoBy : Nat) (gdraft : Nat) (grow : Nat) (growMany : Nat) (growFloats : Nat) (gsaved : Nat) (k : Nat) (f : Nat → Int32) (p0 : Int32) (hk : k + 1 ≤ 5000) (sz : Nat) : Met l yX12_hand (ws_ yX12_hand cX12_hand 3 (some .int)) ({ frames := 0, cells := 0, slots := 0, locals := 0 }) (PW D cI cQ cM cR [.ref m0, .int p0] [(m0, .inr (12, [.ref gweight, .ref gpresent, .ref gspeeches, .int 0, .int 50, .int 0, .int 0, .ref gbuffer, .ref gstate, .ref gplace, .ref gmover, .ref gpart, .ref gamended, .ref gmany, .ref gclause, .ref gfirstMany, .ref gfirstClause, .int 0, .int 0, .int 0, .int (-1), .ref gresolution, .ref gmotion, .ref gaway, .ref gawayMany, .ref gawayOrder, .ref gtable, .ref gcommittee, .int 0, .int 0, .int 0, .int 0, .int 0, .int 0, .int 0, .int 0, .int (-5), .int 0, .int 0, .ref glone, .int 0, .ref gentry, .ref gchange, .int 0, .int (-1), .int 0, .int 0, .ref gyesBy, .ref gnoBy, .int 0, .int 0, .int 0, .int 0, .int 0, .int 0, .ref gdraft, .ref grow, .ref growMany, .ref growFloats, .ref gsaved, .int 1, .int 1, .int (nI k)])), (gsaved, .inl (cI, 5000, .inl f))] sz) (va_Qi (fun (r : Int32) (_ : Unit) => r = p0) (fun (_ : Unit) (t : State) => ∃ f9 : Nat → Int32, va_P D vwCl [(m0, .inr (12, [.ref gweight, .ref gpresent, .ref gspeeches, .int 0, .int 50, .int 0, .int 0, .ref gbuffer, .ref gstate, .ref gplace, .ref gmover, .ref gpart, .ref gamended, .ref gmany, .ref gclause, .ref gfirstMany, .ref gfirstClause, .int 0, .int 0, .int 0, .int (-1), .ref gresolution, .ref gmotion, .ref gaway, .ref gawayMany, .ref gawayOrder, .ref gtable, .ref gcommittee, .int 0, .int 0, .int 0, .int 0, .int 0, .int 0, .int 0, .int 0, .int (-5), .int 0, .int 0, .ref glone, .int 0, .ref gentry, .ref gchange, .int 0, .int (-1), .int 0, .int 0, .ref gyesBy, .ref gnoBy, .int 0, .int 0, .int 0, .int 0, .int 0, .int 0, .ref gdraft, .ref grow, .ref growMany, .ref growFloats, .ref gsaved, .int 1, .int 1, .int (nI (k + 1))])), (gsaved, .inl (cI, 5000, .inl f9))] t.heap ∧ va_D (va_A [(m0, .inr (12, [.ref gweight, .ref gpresent, .ref gspeeches, .int 0, .int 50, .int 0, .int 0, .ref gbuffer, .ref gstate, .ref gplace, .ref gmover, .ref gpart, .ref gamended, .ref gmany, .ref gclause, .ref gfirstMany, .ref gfirstClause, .int 0, .int 0, .int 0, .int (-1), .ref gresolution, .ref gmotion, .ref gaway, .ref gawayMany, .ref gawayOrder, .ref gtable, .ref gcommittee, .int 0, .int 0, .int 0, .int 0, .int 0, .int 0, .int 0, .int 0, .int (-5), .int 0, .int 0, .ref glone, .int 0, .ref gentry, .ref gchange, .int 0, .int (-1), .int 0, .int 0, .ref gyesBy, .ref gnoBy, .int 0, .int 0, .int 0, .int 0, .int 0, .int 0, .ref gdraft, .ref grow, .ref growMany, .ref growFloats, .ref gsaved, .int 1, .int 1, .int (nI k)])), (gsaved, .inl (cI, 5000, .inl f))] sz) [(m0, .inr (12, [.ref gweight, .ref gpresent, .ref gspeeches, .int 0, .int 50, .int 0, .int 0, .ref gbuffer, .ref gstate, .ref gplace, .ref gmover, .ref gpart, .ref gamended, .ref gmany, .ref gclause, .ref gfirstMany, .ref gfirstClause, .int 0, .int 0, .int 0, .int (-1), .ref gresolution, .ref gmotion, .ref gaway, .ref gawayMany, .ref gawayOrder, .ref gtable, .ref gcommittee, .int 0, .int 0, .int 0, .int 0, .int 0, .int 0, .int 0, .int 0, .int (-5), .int 0, .int 0, .ref glone, .int 0, .ref gentry, .ref gchange, .int 0, .int (-1), .int 0, .int 0, .ref gyesBy, .ref gnoBy, .int 0, .int 0, .int 0, .int 0, .int 0, .int 0, .ref gdraft, .ref grow, .ref growMany, .ref growFloats, .ref gsaved, .int 1, .int 1, .int (nI (k + 1))])), (gsaved, .inl (cI, 5000, .inl f9))]) (va_A [(m0, .inr (12, [.ref gweight, .ref gpresent, .ref gspeeches, .int 0, .int 50, .int 0, .int 0, .ref gbuffer, .ref gstate, .ref gplace, .ref gmover, .ref gpart, .ref gamended, .ref gmany, .ref gclause, .ref gfirstMany, .ref gfirstClause, .int 0, .int 0, .int 0, .int (-1), .ref gresolution, .ref gmotion, .ref gaway, .ref gawayMany, .ref gawayOrder, .ref gtable, .ref gcommittee, .int 0, .int 0, .int 0, .int 0, .int 0, .int 0, .int 0, .int 0, .int (-5), .int 0, .int 0, .ref glone, .int 0, .ref gentry, .ref gchange, .int 0, .int (-1), .int 0, .int 0, .ref gyesBy, .ref gnoBy, .int 0, .int 0, .int 0, .int 0, .int 0, .int 0, .ref gdraft, .ref grow, .ref growMany, .ref growFloats, .ref gsaved, .int 1, .int 1, .int (nI k)])), (gsaved, .inl (cI, 5000, .inl f))] sz)) 0 0 (va_A [(m0, .inr (12, [.ref gweight, .ref gpresent, .ref gspeeches, .int 0, .int 50, .int 0, .int 0, .ref gbuffer, .ref gstate, .ref gplace, .ref gmover, .ref gpart, .ref gamended, .ref gmany, .ref gclause, .ref gfirstMany, .ref gfirstClause, .int 0, .int 0, .int 0, .int (-1), .ref gresolution, .ref gmotion, .ref gaway, .ref gawayMany, .ref gawayOrder, .ref gtable, .ref gcommittee, .int 0, .int 0, .int 0, .int 0, .int 0, .int 0, .int 0, .int 0, .int (-5), .int 0, .int 0, .ref glone, .int 0, .ref gentry, .ref gchange, .int 0, .int (-1), .int 0, .int 0, .ref gyesBy, .ref gnoBy, .int 0, .int 0, .int 0, .int 0, .int 0, .int 0, .ref gdraft, .ref grow, .ref growMany, .ref growFloats, .ref gsaved, .int 1, .int 1, .int (nI k)])), (gsaved, .inl (cI, 5000, .inl f))] sz) := by
  sorry
theorem dX12_hands_2 : decode cX12_hands 2 = .ok (.iload_n 2, 1) := by decide +kernel
theorem dX12_hands_3 : decode cX12_hands 3 = .ok (.aload_n 1, 1) := by decide +kernel
theorem dX12_hands_4 : decode cX12_hands 4 = .ok (.arraylength, 1) := by decide +kernel
theorem dX12_hands_5 : decode cX12_hands 5 = .ok (.if_icmp .ge 53, 3) := by decide +kernel
theorem dX12_hands_8 : decode cX12_hands 8 = .ok (.aload_n 0, 1) := by decide +kernel
theorem dX12_hands_9 : decode cX12_hands 9 = .ok (.getfield 361, 3) := by decide +kernel
theorem dX12_hands_12 : decode cX12_hands 12 = .ok (.ifCond .eq 18, 3) := by decide +kernel
theorem dX12_hands_15 : decode cX12_hands 15 = .ok (.aload_n 0, 1) := by decide +kernel
theorem dX12_hands_16 : decode cX12_hands 16 = .ok (.getfield 112, 3) := by decide +kernel
theorem dX12_hands_19 : decode cX12_hands 19 = .ok (.aload_n 0, 1) := by decide +kernel
theorem dX12_hands_20 : decode cX12_hands 20 = .ok (.getfield 365, 3) := by decide +kernel
theorem dX12_hands_23 : decode cX12_hands 23 = .ok (.aload_n 1, 1) := by decide +kernel
theorem dX12_hands_24 : decode cX12_hands 24 = .ok (.iload_n 2, 1) := by decide +kernel
theorem dX12_hands_25 : decode cX12_hands 25 = .ok (.iaload, 1) := by decide +kernel
theorem dX12_hands_26 : decode cX12_hands 26 = .ok (.iastore, 1) := by decide +kernel
theorem dX12_hands_27 : decode cX12_hands 27 = .ok (.goto 15, 3) := by decide +kernel
theorem dX12_hands_42 : decode cX12_hands 42 = .ok (.aload_n 0, 1) := by decide +kernel
theorem dX12_hands_43 : decode cX12_hands 43 = .ok (.dup, 1) := by decide +kernel
theorem dX12_hands_44 : decode cX12_hands 44 = .ok (.getfield 365, 3) := by decide +kernel
theorem dX12_hands_47 : decode cX12_hands 47 = .ok (.iconst 1, 1) := by decide +kernel
theorem dX12_hands_48 : decode cX12_hands 48 = .ok (.iadd, 1) := by decide +kernel
theorem dX12_hands_49 : decode cX12_hands 49 = .ok (.putfield 365, 3) := by decide +kernel
theorem dX12_hands_52 : decode cX12_hands 52 = .ok (.iinc 2 1, 3) := by decide +kernel
theorem dX12_hands_55 : decode cX12_hands 55 = .ok (.goto (-53), 3) := by decide +kernel
section HLOOP
variable {p : Program} {l : Launch} {e : Env} {R : Room} {s : State} {m : MethodId} {args : Array Value} {below : List Frame} {meth : Method} {c : Code} {Q : State → Prop}
variable {D : va_G} {A : Nat → Prop} {cI cQ cM cR : ClassId} {m0 gweight gpresent gspeeches gbuffer gstate gplace gmover gpart gamended gmany gclause gfirstMany gfirstClause gresolution gmotion gaway gawayMany gawayOrder gtable gcommittee glone gentry gchange gyesBy gnoBy gdraft grow growMany growFloats gsaved a0 : Nat} {cells slots : Nat}

set_option maxHeartbeats 4000000 in
set_option maxRecDepth 100000 in
theorem hands_loop (hx : p.tables.exec = Jvm.exec) (hb : c.code = cX12_hands) (hown : s.vm.findClass RX12 = some m.cls) (hts : ∀ w ∈ lw_all, w.before args s = true) (hK : va_K D vwCl (TY cI cQ cM cR) s) {k n : Nat} {g : Nat → Int32} (hkn : k + n ≤ 5000)
    (kk : ∀ (f : Nat → Int32) (H : Heap) (locs : List Loc) (ls : Array Slot), va_P D vwCl [(m0, .inr (12, [.ref gweight, .ref gpresent, .ref gspeeches, .int 0, .int 50, .int 0, .int 0, .ref gbuffer, .ref gstate, .ref gplace, .ref gmover, .ref gpart, .ref gamended, .ref gmany, .ref gclause, .ref gfirstMany, .ref gfirstClause, .int 0, .int 0, .int 0, .int (-1), .ref gresolution, .ref gmotion, .ref gaway, .ref gawayMany, .ref gawayOrder, .ref gtable, .ref gcommittee, .int 0, .int 0, .int 0, .int 0, .int 0, .int 0, .int 0, .int 0, .int (-5), .int 0, .int 0, .ref glone, .int 0, .ref gentry, .ref gchange, .int 0, .int (-1), .int 0, .int 0, .ref gyesBy, .ref gnoBy, .int 0, .int 0, .int 0, .int 0, .int 0, .int 0, .ref gdraft, .ref grow, .ref growMany, .ref growFloats, .ref gsaved, .int 1, .int 1, .int (nI (k + n))])), (gsaved, .inl (cI, 5000, .inl f)), (a0, .inl (cI, n, .inl g))] H → va_D A [(m0, .inr (12, [.ref gweight, .ref gpresent, .ref gspeeches, .int 0, .int 50, .int 0, .int 0, .ref gbuffer, .ref gstate, .ref gplace, .ref gmover, .ref gpart, .ref gamended, .ref gmany, .ref gclause, .ref gfirstMany, .ref gfirstClause, .int 0, .int 0, .int 0, .int (-1), .ref gresolution, .ref gmotion, .ref gaway, .ref gawayMany, .ref gawayOrder, .ref gtable, .ref gcommittee, .int 0, .int 0, .int 0, .int 0, .int 0, .int 0, .int 0, .int 0, .int (-5), .int 0, .int 0, .ref glone, .int 0, .ref gentry, .ref gchange, .int 0, .int (-1), .int 0, .int 0, .ref gyesBy, .ref gnoBy, .int 0, .int 0, .int 0, .int 0, .int 0, .int 0, .ref gdraft, .ref grow, .ref growMany, .ref growFloats, .ref gsaved, .int 1, .int 1, .int (nI (k + n))])), (gsaved, .inl (cI, 5000, .inl f)), (a0, .inl (cI, n, .inl g))] → va_S A s.heap H locs → lv_has ls 3 [(2, .int (nI n)), (0, .ref m0), (1, .ref a0)] → W p l e R s m args below meth c H locs cells slots Q (F0 m 58 ls [])) :
    ∀ (j i : Nat), i + j = n → ∀ (f : Nat → Int32) (H : Heap) (locs : List Loc) (ls : Array Slot), va_P D vwCl [(m0, .inr (12, [.ref gweight, .ref gpresent, .ref gspeeches, .int 0, .int 50, .int 0, .int 0, .ref gbuffer, .ref gstate, .ref gplace, .ref gmover, .ref gpart, .ref gamended, .ref gmany, .ref gclause, .ref gfirstMany, .ref gfirstClause, .int 0, .int 0, .int 0, .int (-1), .ref gresolution, .ref gmotion, .ref gaway, .ref gawayMany, .ref gawayOrder, .ref gtable, .ref gcommittee, .int 0, .int 0, .int 0, .int 0, .int 0, .int 0, .int 0, .int 0, .int (-5), .int 0, .int 0, .ref glone, .int 0, .ref gentry, .ref gchange, .int 0, .int (-1), .int 0, .int 0, .ref gyesBy, .ref gnoBy, .int 0, .int 0, .int 0, .int 0, .int 0, .int 0, .ref gdraft, .ref grow, .ref growMany, .ref growFloats, .ref gsaved, .int 1, .int 1, .int (nI (k + i))])), (gsaved, .inl (cI, 5000, .inl f)), (a0, .inl (cI, n, .inl g))] H → va_D A [(m0, .inr (12, [.ref gweight, .ref gpresent, .ref gspeeches, .int 0, .int 50, .int 0, .int 0, .ref gbuffer, .ref gstate, .ref gplace, .ref gmover, .ref gpart, .ref gamended, .ref gmany, .ref gclause, .ref gfirstMany, .ref gfirstClause, .int 0, .int 0, .int 0, .int (-1), .ref gresolution, .ref gmotion, .ref gaway, .ref gawayMany, .ref gawayOrder, .ref gtable, .ref gcommittee, .int 0, .int 0, .int 0, .int 0, .int 0, .int 0, .int 0, .int 0, .int (-5), .int 0, .int 0, .ref glone, .int 0, .ref gentry, .ref gchange, .int 0, .int (-1), .int 0, .int 0, .ref gyesBy, .ref gnoBy, .int 0, .int 0, .int 0, .int 0, .int 0, .int 0, .ref gdraft, .ref grow, .ref growMany, .ref growFloats, .ref gsaved, .int 1, .int 1, .int (nI (k + i))])), (gsaved, .inl (cI, 5000, .inl f)), (a0, .inl (cI, n, .inl g))] → va_S A s.heap H locs → lv_has ls 3 [(2, .int (nI i)), (0, .ref m0), (1, .ref a0)] → W p l e R s m args below meth c H locs cells slots Q (F0 m 2 ls []) := by
  sorry
end HLOOP
theorem dX12_hands_0 : decode cX12_hands 0 = .ok (.iconst 0, 1) := by decide +kernel
theorem dX12_hands_1 : decode cX12_hands 1 = .ok (.istore_n 2, 1) := by decide +kernel
theorem dX12_hands_58 : decode cX12_hands 58 = .ok (.return_, 1) := by decide +kernel
set_option maxHeartbeats 4000000 in
set_option maxRecDepth 100000 in
theorem c_X12_hands (l : Launch) (D : va_G) (cI cQ cM cR : ClassId) (m0 : Nat) (gweight : Nat) (gpresent : Nat) (gspeeches : Nat) (gbuffer : Nat) (gstate : Nat) (gplace : Nat) (gmover : Nat) (gpart : Nat) (gamended : Nat) (gmany : Nat) (gclause : Nat) (gfirstMany : Nat) (gfirstClause : Nat) (gresolution : Nat) (gmotion : Nat) (gaway : Nat) (gawayMany : Nat) (gawayOrder : Nat) (gtable : Nat) (gcommittee : Nat) (glone : Nat) (gentry : Nat) (gchange : Nat) (gyesBy : Nat) (gnoBy : Nat) (gdraft : Nat) (grow : Nat) (growMany : Nat) (growFloats : Nat) (gsaved : Nat) (a0 : Nat) (n : Nat) (g : Nat → Int32) (k : Nat) (f : Nat → Int32) (hk : k + n ≤ 5000) (sz : Nat) : Met l yX12_hands (ws_ yX12_hands cX12_hands 3 none) ({ frames := 0, cells := 0, slots := 0, locals := 0 }) (PW D cI cQ cM cR [.ref m0, .ref a0] [(m0, .inr (12, [.ref gweight, .ref gpresent, .ref gspeeches, .int 0, .int 50, .int 0, .int 0, .ref gbuffer, .ref gstate, .ref gplace, .ref gmover, .ref gpart, .ref gamended, .ref gmany, .ref gclause, .ref gfirstMany, .ref gfirstClause, .int 0, .int 0, .int 0, .int (-1), .ref gresolution, .ref gmotion, .ref gaway, .ref gawayMany, .ref gawayOrder, .ref gtable, .ref gcommittee, .int 0, .int 0, .int 0, .int 0, .int 0, .int 0, .int 0, .int 0, .int (-5), .int 0, .int 0, .ref glone, .int 0, .ref gentry, .ref gchange, .int 0, .int (-1), .int 0, .int 0, .ref gyesBy, .ref gnoBy, .int 0, .int 0, .int 0, .int 0, .int 0, .int 0, .ref gdraft, .ref grow, .ref growMany, .ref growFloats, .ref gsaved, .int 1, .int 1, .int (nI k)])), (gsaved, .inl (cI, 5000, .inl f)), (a0, .inl (cI, n, .inl g))] sz) (va_Qv (fun _ => True) (fun (_ : Unit) (t : State) => ∃ f9 : Nat → Int32, va_P D vwCl [(m0, .inr (12, [.ref gweight, .ref gpresent, .ref gspeeches, .int 0, .int 50, .int 0, .int 0, .ref gbuffer, .ref gstate, .ref gplace, .ref gmover, .ref gpart, .ref gamended, .ref gmany, .ref gclause, .ref gfirstMany, .ref gfirstClause, .int 0, .int 0, .int 0, .int (-1), .ref gresolution, .ref gmotion, .ref gaway, .ref gawayMany, .ref gawayOrder, .ref gtable, .ref gcommittee, .int 0, .int 0, .int 0, .int 0, .int 0, .int 0, .int 0, .int 0, .int (-5), .int 0, .int 0, .ref glone, .int 0, .ref gentry, .ref gchange, .int 0, .int (-1), .int 0, .int 0, .ref gyesBy, .ref gnoBy, .int 0, .int 0, .int 0, .int 0, .int 0, .int 0, .ref gdraft, .ref grow, .ref growMany, .ref growFloats, .ref gsaved, .int 1, .int 1, .int (nI (k + n))])), (gsaved, .inl (cI, 5000, .inl f9)), (a0, .inl (cI, n, .inl g))] t.heap ∧ va_D (va_A [(m0, .inr (12, [.ref gweight, .ref gpresent, .ref gspeeches, .int 0, .int 50, .int 0, .int 0, .ref gbuffer, .ref gstate, .ref gplace, .ref gmover, .ref gpart, .ref gamended, .ref gmany, .ref gclause, .ref gfirstMany, .ref gfirstClause, .int 0, .int 0, .int 0, .int (-1), .ref gresolution, .ref gmotion, .ref gaway, .ref gawayMany, .ref gawayOrder, .ref gtable, .ref gcommittee, .int 0, .int 0, .int 0, .int 0, .int 0, .int 0, .int 0, .int 0, .int (-5), .int 0, .int 0, .ref glone, .int 0, .ref gentry, .ref gchange, .int 0, .int (-1), .int 0, .int 0, .ref gyesBy, .ref gnoBy, .int 0, .int 0, .int 0, .int 0, .int 0, .int 0, .ref gdraft, .ref grow, .ref growMany, .ref growFloats, .ref gsaved, .int 1, .int 1, .int (nI k)])), (gsaved, .inl (cI, 5000, .inl f)), (a0, .inl (cI, n, .inl g))] sz) [(m0, .inr (12, [.ref gweight, .ref gpresent, .ref gspeeches, .int 0, .int 50, .int 0, .int 0, .ref gbuffer, .ref gstate, .ref gplace, .ref gmover, .ref gpart, .ref gamended, .ref gmany, .ref gclause, .ref gfirstMany, .ref gfirstClause, .int 0, .int 0, .int 0, .int (-1), .ref gresolution, .ref gmotion, .ref gaway, .ref gawayMany, .ref gawayOrder, .ref gtable, .ref gcommittee, .int 0, .int 0, .int 0, .int 0, .int 0, .int 0, .int 0, .int 0, .int (-5), .int 0, .int 0, .ref glone, .int 0, .ref gentry, .ref gchange, .int 0, .int (-1), .int 0, .int 0, .ref gyesBy, .ref gnoBy, .int 0, .int 0, .int 0, .int 0, .int 0, .int 0, .ref gdraft, .ref grow, .ref growMany, .ref growFloats, .ref gsaved, .int 1, .int 1, .int (nI (k + n))])), (gsaved, .inl (cI, 5000, .inl f9)), (a0, .inl (cI, n, .inl g))]) (va_A [(m0, .inr (12, [.ref gweight, .ref gpresent, .ref gspeeches, .int 0, .int 50, .int 0, .int 0, .ref gbuffer, .ref gstate, .ref gplace, .ref gmover, .ref gpart, .ref gamended, .ref gmany, .ref gclause, .ref gfirstMany, .ref gfirstClause, .int 0, .int 0, .int 0, .int (-1), .ref gresolution, .ref gmotion, .ref gaway, .ref gawayMany, .ref gawayOrder, .ref gtable, .ref gcommittee, .int 0, .int 0, .int 0, .int 0, .int 0, .int 0, .int 0, .int 0, .int (-5), .int 0, .int 0, .ref glone, .int 0, .ref gentry, .ref gchange, .int 0, .int (-1), .int 0, .int 0, .ref gyesBy, .ref gnoBy, .int 0, .int 0, .int 0, .int 0, .int 0, .int 0, .ref gdraft, .ref grow, .ref growMany, .ref growFloats, .ref gsaved, .int 1, .int 1, .int (nI k)])), (gsaved, .inl (cI, 5000, .inl f)), (a0, .inl (cI, n, .inl g))] sz)) 0 0 (va_A [(m0, .inr (12, [.ref gweight, .ref gpresent, .ref gspeeches, .int 0, .int 50, .int 0, .int 0, .ref gbuffer, .ref gstate, .ref gplace, .ref gmover, .ref gpart, .ref gamended, .ref gmany, .ref gclause, .ref gfirstMany, .ref gfirstClause, .int 0, .int 0, .int 0, .int (-1), .ref gresolution, .ref gmotion, .ref gaway, .ref gawayMany, .ref gawayOrder, .ref gtable, .ref gcommittee, .int 0, .int 0, .int 0, .int 0, .int 0, .int 0, .int 0, .int 0, .int (-5), .int 0, .int 0, .ref glone, .int 0, .ref gentry, .ref gchange, .int 0, .int (-1), .int 0, .int 0, .ref gyesBy, .ref gnoBy, .int 0, .int 0, .int 0, .int 0, .int 0, .int 0, .ref gdraft, .ref grow, .ref growMany, .ref growFloats, .ref gsaved, .int 1, .int 1, .int (nI k)])), (gsaved, .inl (cI, 5000, .inl f)), (a0, .inl (cI, n, .inl g))] sz) := by
  sorry
theorem dX12_handsRows_0 : decode cX12_handsRows 0 = .ok (.aload_n 0, 1) := by decide +kernel
theorem dX12_handsRows_1 : decode cX12_handsRows 1 = .ok (.aload_n 0, 1) := by decide +kernel
theorem dX12_handsRows_2 : decode cX12_handsRows 2 = .ok (.getfield 9, 3) := by decide +kernel
theorem dX12_handsRows_5 : decode cX12_handsRows 5 = .ok (.invokevirtual 368, 3) := by decide +kernel
theorem dX12_handsRows_8 : decode cX12_handsRows 8 = .ok (.aload_n 0, 1) := by decide +kernel
theorem dX12_handsRows_9 : decode cX12_handsRows 9 = .ok (.aload_n 0, 1) := by decide +kernel
theorem dX12_handsRows_10 : decode cX12_handsRows 10 = .ok (.getfield 15, 3) := by decide +kernel
theorem dX12_handsRows_13 : decode cX12_handsRows 13 = .ok (.invokevirtual 368, 3) := by decide +kernel
theorem dX12_handsRows_16 : decode cX12_handsRows 16 = .ok (.aload_n 0, 1) := by decide +kernel
theorem dX12_handsRows_17 : decode cX12_handsRows 17 = .ok (.aload_n 0, 1) := by decide +kernel
theorem dX12_handsRows_18 : decode cX12_handsRows 18 = .ok (.getfield 18, 3) := by decide +kernel
theorem dX12_handsRows_21 : decode cX12_handsRows 21 = .ok (.invokevirtual 368, 3) := by decide +kernel
theorem dX12_handsRows_24 : decode cX12_handsRows 24 = .ok (.aload_n 0, 1) := by decide +kernel
theorem dX12_handsRows_25 : decode cX12_handsRows 25 = .ok (.aload_n 0, 1) := by decide +kernel
theorem dX12_handsRows_26 : decode cX12_handsRows 26 = .ok (.getfield 25, 3) := by decide +kernel
theorem dX12_handsRows_29 : decode cX12_handsRows 29 = .ok (.invokevirtual 368, 3) := by decide +kernel
theorem dX12_handsRows_32 : decode cX12_handsRows 32 = .ok (.aload_n 0, 1) := by decide +kernel
theorem dX12_handsRows_33 : decode cX12_handsRows 33 = .ok (.aload_n 0, 1) := by decide +kernel
theorem dX12_handsRows_34 : decode cX12_handsRows 34 = .ok (.getfield 28, 3) := by decide +kernel
theorem dX12_handsRows_37 : decode cX12_handsRows 37 = .ok (.invokevirtual 368, 3) := by decide +kernel
theorem dX12_handsRows_40 : decode cX12_handsRows 40 = .ok (.aload_n 0, 1) := by decide +kernel
theorem dX12_handsRows_41 : decode cX12_handsRows 41 = .ok (.aload_n 0, 1) := by decide +kernel
theorem dX12_handsRows_42 : decode cX12_handsRows 42 = .ok (.getfield 31, 3) := by decide +kernel
theorem dX12_handsRows_45 : decode cX12_handsRows 45 = .ok (.invokevirtual 368, 3) := by decide +kernel
theorem dX12_handsRows_48 : decode cX12_handsRows 48 = .ok (.aload_n 0, 1) := by decide +kernel
theorem dX12_handsRows_49 : decode cX12_handsRows 49 = .ok (.aload_n 0, 1) := by decide +kernel
theorem dX12_handsRows_50 : decode cX12_handsRows 50 = .ok (.getfield 34, 3) := by decide +kernel
theorem dX12_handsRows_53 : decode cX12_handsRows 53 = .ok (.invokevirtual 368, 3) := by decide +kernel
theorem dX12_handsRows_56 : decode cX12_handsRows 56 = .ok (.aload_n 0, 1) := by decide +kernel
theorem dX12_handsRows_57 : decode cX12_handsRows 57 = .ok (.aload_n 0, 1) := by decide +kernel
theorem dX12_handsRows_58 : decode cX12_handsRows 58 = .ok (.getfield 37, 3) := by decide +kernel
theorem dX12_handsRows_61 : decode cX12_handsRows 61 = .ok (.invokevirtual 368, 3) := by decide +kernel
theorem dX12_handsRows_64 : decode cX12_handsRows 64 = .ok (.aload_n 0, 1) := by decide +kernel
theorem dX12_handsRows_65 : decode cX12_handsRows 65 = .ok (.aload_n 0, 1) := by decide +kernel
theorem dX12_handsRows_66 : decode cX12_handsRows 66 = .ok (.getfield 40, 3) := by decide +kernel
theorem dX12_handsRows_69 : decode cX12_handsRows 69 = .ok (.invokevirtual 368, 3) := by decide +kernel
theorem dX12_handsRows_72 : decode cX12_handsRows 72 = .ok (.aload_n 0, 1) := by decide +kernel
theorem dX12_handsRows_73 : decode cX12_handsRows 73 = .ok (.aload_n 0, 1) := by decide +kernel
theorem dX12_handsRows_74 : decode cX12_handsRows 74 = .ok (.getfield 43, 3) := by decide +kernel
theorem dX12_handsRows_77 : decode cX12_handsRows 77 = .ok (.invokevirtual 368, 3) := by decide +kernel
theorem dX12_handsRows_80 : decode cX12_handsRows 80 = .ok (.aload_n 0, 1) := by decide +kernel
theorem dX12_handsRows_81 : decode cX12_handsRows 81 = .ok (.aload_n 0, 1) := by decide +kernel
theorem dX12_handsRows_82 : decode cX12_handsRows 82 = .ok (.getfield 46, 3) := by decide +kernel
theorem dX12_handsRows_85 : decode cX12_handsRows 85 = .ok (.invokevirtual 368, 3) := by decide +kernel
theorem dX12_handsRows_88 : decode cX12_handsRows 88 = .ok (.aload_n 0, 1) := by decide +kernel
theorem dX12_handsRows_89 : decode cX12_handsRows 89 = .ok (.aload_n 0, 1) := by decide +kernel
theorem dX12_handsRows_90 : decode cX12_handsRows 90 = .ok (.getfield 49, 3) := by decide +kernel
theorem dX12_handsRows_93 : decode cX12_handsRows 93 = .ok (.invokevirtual 368, 3) := by decide +kernel
theorem dX12_handsRows_96 : decode cX12_handsRows 96 = .ok (.aload_n 0, 1) := by decide +kernel
theorem dX12_handsRows_97 : decode cX12_handsRows 97 = .ok (.aload_n 0, 1) := by decide +kernel
theorem dX12_handsRows_98 : decode cX12_handsRows 98 = .ok (.getfield 52, 3) := by decide +kernel
theorem dX12_handsRows_101 : decode cX12_handsRows 101 = .ok (.invokevirtual 368, 3) := by decide +kernel
theorem dX12_handsRows_104 : decode cX12_handsRows 104 = .ok (.aload_n 0, 1) := by decide +kernel
theorem dX12_handsRows_105 : decode cX12_handsRows 105 = .ok (.aload_n 0, 1) := by decide +kernel
theorem dX12_handsRows_106 : decode cX12_handsRows 106 = .ok (.getfield 58, 3) := by decide +kernel
theorem dX12_handsRows_109 : decode cX12_handsRows 109 = .ok (.invokevirtual 368, 3) := by decide +kernel
theorem dX12_handsRows_112 : decode cX12_handsRows 112 = .ok (.aload_n 0, 1) := by decide +kernel
theorem dX12_handsRows_113 : decode cX12_handsRows 113 = .ok (.aload_n 0, 1) := by decide +kernel
theorem dX12_handsRows_114 : decode cX12_handsRows 114 = .ok (.getfield 61, 3) := by decide +kernel
theorem dX12_handsRows_117 : decode cX12_handsRows 117 = .ok (.invokevirtual 368, 3) := by decide +kernel
theorem dX12_handsRows_120 : decode cX12_handsRows 120 = .ok (.aload_n 0, 1) := by decide +kernel
theorem dX12_handsRows_121 : decode cX12_handsRows 121 = .ok (.aload_n 0, 1) := by decide +kernel
theorem dX12_handsRows_122 : decode cX12_handsRows 122 = .ok (.getfield 64, 3) := by decide +kernel
theorem dX12_handsRows_125 : decode cX12_handsRows 125 = .ok (.invokevirtual 368, 3) := by decide +kernel
theorem dX12_handsRows_128 : decode cX12_handsRows 128 = .ok (.aload_n 0, 1) := by decide +kernel
theorem dX12_handsRows_129 : decode cX12_handsRows 129 = .ok (.aload_n 0, 1) := by decide +kernel
theorem dX12_handsRows_130 : decode cX12_handsRows 130 = .ok (.getfield 67, 3) := by decide +kernel
theorem dX12_handsRows_133 : decode cX12_handsRows 133 = .ok (.invokevirtual 368, 3) := by decide +kernel
theorem dX12_handsRows_136 : decode cX12_handsRows 136 = .ok (.aload_n 0, 1) := by decide +kernel
theorem dX12_handsRows_137 : decode cX12_handsRows 137 = .ok (.aload_n 0, 1) := by decide +kernel
theorem dX12_handsRows_138 : decode cX12_handsRows 138 = .ok (.getfield 70, 3) := by decide +kernel
theorem dX12_handsRows_141 : decode cX12_handsRows 141 = .ok (.invokevirtual 368, 3) := by decide +kernel
theorem dX12_handsRows_144 : decode cX12_handsRows 144 = .ok (.aload_n 0, 1) := by decide +kernel
theorem dX12_handsRows_145 : decode cX12_handsRows 145 = .ok (.aload_n 0, 1) := by decide +kernel
theorem dX12_handsRows_146 : decode cX12_handsRows 146 = .ok (.getfield 82, 3) := by decide +kernel
theorem dX12_handsRows_149 : decode cX12_handsRows 149 = .ok (.invokevirtual 368, 3) := by decide +kernel
theorem dX12_handsRows_152 : decode cX12_handsRows 152 = .ok (.aload_n 0, 1) := by decide +kernel
theorem dX12_handsRows_153 : decode cX12_handsRows 153 = .ok (.aload_n 0, 1) := by decide +kernel
theorem dX12_handsRows_154 : decode cX12_handsRows 154 = .ok (.getfield 73, 3) := by decide +kernel
theorem dX12_handsRows_157 : decode cX12_handsRows 157 = .ok (.invokevirtual 368, 3) := by decide +kernel
theorem dX12_handsRows_160 : decode cX12_handsRows 160 = .ok (.aload_n 0, 1) := by decide +kernel
theorem dX12_handsRows_161 : decode cX12_handsRows 161 = .ok (.aload_n 0, 1) := by decide +kernel
theorem dX12_handsRows_162 : decode cX12_handsRows 162 = .ok (.getfield 76, 3) := by decide +kernel
theorem dX12_handsRows_165 : decode cX12_handsRows 165 = .ok (.invokevirtual 368, 3) := by decide +kernel
theorem dX12_handsRows_168 : decode cX12_handsRows 168 = .ok (.aload_n 0, 1) := by decide +kernel
theorem dX12_handsRows_169 : decode cX12_handsRows 169 = .ok (.aload_n 0, 1) := by decide +kernel
theorem dX12_handsRows_170 : decode cX12_handsRows 170 = .ok (.getfield 85, 3) := by decide +kernel
theorem dX12_handsRows_173 : decode cX12_handsRows 173 = .ok (.invokevirtual 368, 3) := by decide +kernel
theorem dX12_handsRows_176 : decode cX12_handsRows 176 = .ok (.aload_n 0, 1) := by decide +kernel
theorem dX12_handsRows_177 : decode cX12_handsRows 177 = .ok (.aload_n 0, 1) := by decide +kernel
theorem dX12_handsRows_178 : decode cX12_handsRows 178 = .ok (.getfield 88, 3) := by decide +kernel
theorem dX12_handsRows_181 : decode cX12_handsRows 181 = .ok (.invokevirtual 368, 3) := by decide +kernel
theorem dX12_handsRows_184 : decode cX12_handsRows 184 = .ok (.aload_n 0, 1) := by decide +kernel
theorem dX12_handsRows_185 : decode cX12_handsRows 185 = .ok (.aload_n 0, 1) := by decide +kernel
theorem dX12_handsRows_186 : decode cX12_handsRows 186 = .ok (.getfield 94, 3) := by decide +kernel
theorem dX12_handsRows_189 : decode cX12_handsRows 189 = .ok (.invokevirtual 368, 3) := by decide +kernel
theorem dX12_handsRows_192 : decode cX12_handsRows 192 = .ok (.aload_n 0, 1) := by decide +kernel
theorem dX12_handsRows_193 : decode cX12_handsRows 193 = .ok (.aload_n 0, 1) := by decide +kernel
theorem dX12_handsRows_194 : decode cX12_handsRows 194 = .ok (.getfield 97, 3) := by decide +kernel
theorem dX12_handsRows_197 : decode cX12_handsRows 197 = .ok (.invokevirtual 368, 3) := by decide +kernel
theorem dX12_handsRows_200 : decode cX12_handsRows 200 = .ok (.return_, 1) := by decide +kernel
set_option maxRecDepth 100000 in
theorem q_1514 : (.code yX12_hands cX12_hands 3 none) ∈ lw_all := List.mem_filter.mpr ⟨List.mem_of_getElem? (i := 1514) (rfl), by decide +kernel⟩
set_option maxRecDepth 100000 in
theorem q_1513 : (.instanceMethod yX12_hands) ∈ lw_all := List.mem_filter.mpr ⟨List.mem_of_getElem? (i := 1513) (by decide +kernel), by decide +kernel⟩
set_option maxRecDepth 100000 in
theorem q_1511 : (.methodLink RX12 368 yX12_hands) ∈ lw_all := List.mem_filter.mpr ⟨List.mem_of_getElem? (i := 1511) (by decide +kernel), by decide +kernel⟩
set_option maxRecDepth 100000 in
theorem q_61 : (.selects RX12 yX12_hands yX12_hands) ∈ lw_all := List.mem_filter.mpr ⟨List.mem_of_getElem? (i := 61) (by decide +kernel), by decide +kernel⟩
set_option maxHeartbeats 4000000 in
set_option maxRecDepth 100000 in
theorem c_X12_handsRows (l : Launch) (D : va_G) (cI cQ cM cR : ClassId) (m0 : Nat) (gweight : Nat) (gpresent : Nat) (gspeeches : Nat) (gbuffer : Nat) (gstate : Nat) (gplace : Nat) (gmover : Nat) (gpart : Nat) (gamended : Nat) (gmany : Nat) (gclause : Nat) (gfirstMany : Nat) (gfirstClause : Nat) (gresolution : Nat) (gmotion : Nat) (gaway : Nat) (gawayMany : Nat) (gawayOrder : Nat) (gtable : Nat) (gcommittee : Nat) (glone : Nat) (gentry : Nat) (gchange : Nat) (gyesBy : Nat) (gnoBy : Nat) (gdraft : Nat) (grow : Nat) (growMany : Nat) (growFloats : Nat) (gsaved : Nat) (f : Nat → Int32) (sz : Nat) : Met l yX12_handsRows (ws_ yX12_handsRows cX12_handsRows 1 none) ({ frames := 1, cells := 0, slots := 0, locals := 22 }) (PW D cI cQ cM cR [.ref m0] [(m0, .inr (12, [.ref gweight, .ref gpresent, .ref gspeeches, .int 0, .int 50, .int 0, .int 0, .ref gbuffer, .ref gstate, .ref gplace, .ref gmover, .ref gpart, .ref gamended, .ref gmany, .ref gclause, .ref gfirstMany, .ref gfirstClause, .int 0, .int 0, .int 0, .int (-1), .ref gresolution, .ref gmotion, .ref gaway, .ref gawayMany, .ref gawayOrder, .ref gtable, .ref gcommittee, .int 0, .int 0, .int 0, .int 0, .int 0, .int 0, .int 0, .int 0, .int (-5), .int 0, .int 0, .ref glone, .int 0, .ref gentry, .ref gchange, .int 0, .int (-1), .int 0, .int 0, .ref gyesBy, .ref gnoBy, .int 0, .int 0, .int 0, .int 0, .int 0, .int 0, .ref gdraft, .ref grow, .ref growMany, .ref growFloats, .ref gsaved, .int 1, .int 1, .int (nI 0)])), (gsaved, .inl (cI, 5000, .inl f)), (gweight, .inl (cI, 12, .inl (fun _ => 0))), (gpresent, .inl (cI, 12, .inl (fun _ => 0))), (gspeeches, .inl (cI, 12, .inl (fun _ => 0))), (gbuffer, .inl (cI, 8, .inl (fun _ => 0))), (gstate, .inl (cI, 20, .inl (fun _ => 0))), (gplace, .inl (cI, 20, .inl (fun _ => 0))), (gmover, .inl (cI, 20, .inl (fun _ => 0))), (gpart, .inl (cI, 20, .inl (fun _ => 0))), (gamended, .inl (cI, 20, .inl (fun _ => 0))), (gmany, .inl (cI, 20, .inl (fun _ => 0))), (gclause, .inl (cI, 160, .inl (fun _ => 0))), (gfirstMany, .inl (cI, 20, .inl (fun _ => 0))), (gfirstClause, .inl (cI, 160, .inl (fun _ => 0))), (gresolution, .inl (cI, 40, .inl (fun _ => 0))), (gmotion, .inl (cI, 60, .inl (fun _ => 0))), (gaway, .inl (cI, 1200, .inl (fun _ => 0))), (gawayMany, .inl (cI, 20, .inl (fun _ => 0))), (gawayOrder, .inl (cI, 20, .inl (fun _ => 0))), (glone, .inl (cI, 1040, .inl (fun _ => 0))), (gtable, .inl (cI, 3, .inl (fun _ => 0))), (gcommittee, .inl (cI, 4, .inl (upd (upd (upd (upd (fun _ => 0) 0 (-1)) 1 (-1)) 2 (-1)) 3 (-1)))), (gentry, .inl (cI, 480, .inl (fun _ => 0))), (gchange, .inl (cI, 480, .inl (fun _ => 0))), (gyesBy, .inl (cI, 40, .inl (fun _ => 0))), (gnoBy, .inl (cI, 40, .inl (fun _ => 0)))] sz) (va_Qv (fun _ => True) (fun (_ : Unit) (t : State) => ∃ f9 : Nat → Int32, va_P D vwCl [(m0, .inr (12, [.ref gweight, .ref gpresent, .ref gspeeches, .int 0, .int 50, .int 0, .int 0, .ref gbuffer, .ref gstate, .ref gplace, .ref gmover, .ref gpart, .ref gamended, .ref gmany, .ref gclause, .ref gfirstMany, .ref gfirstClause, .int 0, .int 0, .int 0, .int (-1), .ref gresolution, .ref gmotion, .ref gaway, .ref gawayMany, .ref gawayOrder, .ref gtable, .ref gcommittee, .int 0, .int 0, .int 0, .int 0, .int 0, .int 0, .int 0, .int 0, .int (-5), .int 0, .int 0, .ref glone, .int 0, .ref gentry, .ref gchange, .int 0, .int (-1), .int 0, .int 0, .ref gyesBy, .ref gnoBy, .int 0, .int 0, .int 0, .int 0, .int 0, .int 0, .ref gdraft, .ref grow, .ref growMany, .ref growFloats, .ref gsaved, .int 1, .int 1, .int (nI 3931)])), (gsaved, .inl (cI, 5000, .inl f9))] t.heap ∧ va_D (va_A [(m0, .inr (12, [.ref gweight, .ref gpresent, .ref gspeeches, .int 0, .int 50, .int 0, .int 0, .ref gbuffer, .ref gstate, .ref gplace, .ref gmover, .ref gpart, .ref gamended, .ref gmany, .ref gclause, .ref gfirstMany, .ref gfirstClause, .int 0, .int 0, .int 0, .int (-1), .ref gresolution, .ref gmotion, .ref gaway, .ref gawayMany, .ref gawayOrder, .ref gtable, .ref gcommittee, .int 0, .int 0, .int 0, .int 0, .int 0, .int 0, .int 0, .int 0, .int (-5), .int 0, .int 0, .ref glone, .int 0, .ref gentry, .ref gchange, .int 0, .int (-1), .int 0, .int 0, .ref gyesBy, .ref gnoBy, .int 0, .int 0, .int 0, .int 0, .int 0, .int 0, .ref gdraft, .ref grow, .ref growMany, .ref growFloats, .ref gsaved, .int 1, .int 1, .int (nI 0)])), (gsaved, .inl (cI, 5000, .inl f)), (gweight, .inl (cI, 12, .inl (fun _ => 0))), (gpresent, .inl (cI, 12, .inl (fun _ => 0))), (gspeeches, .inl (cI, 12, .inl (fun _ => 0))), (gbuffer, .inl (cI, 8, .inl (fun _ => 0))), (gstate, .inl (cI, 20, .inl (fun _ => 0))), (gplace, .inl (cI, 20, .inl (fun _ => 0))), (gmover, .inl (cI, 20, .inl (fun _ => 0))), (gpart, .inl (cI, 20, .inl (fun _ => 0))), (gamended, .inl (cI, 20, .inl (fun _ => 0))), (gmany, .inl (cI, 20, .inl (fun _ => 0))), (gclause, .inl (cI, 160, .inl (fun _ => 0))), (gfirstMany, .inl (cI, 20, .inl (fun _ => 0))), (gfirstClause, .inl (cI, 160, .inl (fun _ => 0))), (gresolution, .inl (cI, 40, .inl (fun _ => 0))), (gmotion, .inl (cI, 60, .inl (fun _ => 0))), (gaway, .inl (cI, 1200, .inl (fun _ => 0))), (gawayMany, .inl (cI, 20, .inl (fun _ => 0))), (gawayOrder, .inl (cI, 20, .inl (fun _ => 0))), (glone, .inl (cI, 1040, .inl (fun _ => 0))), (gtable, .inl (cI, 3, .inl (fun _ => 0))), (gcommittee, .inl (cI, 4, .inl (upd (upd (upd (upd (fun _ => 0) 0 (-1)) 1 (-1)) 2 (-1)) 3 (-1)))), (gentry, .inl (cI, 480, .inl (fun _ => 0))), (gchange, .inl (cI, 480, .inl (fun _ => 0))), (gyesBy, .inl (cI, 40, .inl (fun _ => 0))), (gnoBy, .inl (cI, 40, .inl (fun _ => 0)))] sz) [(m0, .inr (12, [.ref gweight, .ref gpresent, .ref gspeeches, .int 0, .int 50, .int 0, .int 0, .ref gbuffer, .ref gstate, .ref gplace, .ref gmover, .ref gpart, .ref gamended, .ref gmany, .ref gclause, .ref gfirstMany, .ref gfirstClause, .int 0, .int 0, .int 0, .int (-1), .ref gresolution, .ref gmotion, .ref gaway, .ref gawayMany, .ref gawayOrder, .ref gtable, .ref gcommittee, .int 0, .int 0, .int 0, .int 0, .int 0, .int 0, .int 0, .int 0, .int (-5), .int 0, .int 0, .ref glone, .int 0, .ref gentry, .ref gchange, .int 0, .int (-1), .int 0, .int 0, .ref gyesBy, .ref gnoBy, .int 0, .int 0, .int 0, .int 0, .int 0, .int 0, .ref gdraft, .ref grow, .ref growMany, .ref growFloats, .ref gsaved, .int 1, .int 1, .int (nI 3931)])), (gsaved, .inl (cI, 5000, .inl f9))]) (va_A [(m0, .inr (12, [.ref gweight, .ref gpresent, .ref gspeeches, .int 0, .int 50, .int 0, .int 0, .ref gbuffer, .ref gstate, .ref gplace, .ref gmover, .ref gpart, .ref gamended, .ref gmany, .ref gclause, .ref gfirstMany, .ref gfirstClause, .int 0, .int 0, .int 0, .int (-1), .ref gresolution, .ref gmotion, .ref gaway, .ref gawayMany, .ref gawayOrder, .ref gtable, .ref gcommittee, .int 0, .int 0, .int 0, .int 0, .int 0, .int 0, .int 0, .int 0, .int (-5), .int 0, .int 0, .ref glone, .int 0, .ref gentry, .ref gchange, .int 0, .int (-1), .int 0, .int 0, .ref gyesBy, .ref gnoBy, .int 0, .int 0, .int 0, .int 0, .int 0, .int 0, .ref gdraft, .ref grow, .ref growMany, .ref growFloats, .ref gsaved, .int 1, .int 1, .int (nI 0)])), (gsaved, .inl (cI, 5000, .inl f)), (gweight, .inl (cI, 12, .inl (fun _ => 0))), (gpresent, .inl (cI, 12, .inl (fun _ => 0))), (gspeeches, .inl (cI, 12, .inl (fun _ => 0))), (gbuffer, .inl (cI, 8, .inl (fun _ => 0))), (gstate, .inl (cI, 20, .inl (fun _ => 0))), (gplace, .inl (cI, 20, .inl (fun _ => 0))), (gmover, .inl (cI, 20, .inl (fun _ => 0))), (gpart, .inl (cI, 20, .inl (fun _ => 0))), (gamended, .inl (cI, 20, .inl (fun _ => 0))), (gmany, .inl (cI, 20, .inl (fun _ => 0))), (gclause, .inl (cI, 160, .inl (fun _ => 0))), (gfirstMany, .inl (cI, 20, .inl (fun _ => 0))), (gfirstClause, .inl (cI, 160, .inl (fun _ => 0))), (gresolution, .inl (cI, 40, .inl (fun _ => 0))), (gmotion, .inl (cI, 60, .inl (fun _ => 0))), (gaway, .inl (cI, 1200, .inl (fun _ => 0))), (gawayMany, .inl (cI, 20, .inl (fun _ => 0))), (gawayOrder, .inl (cI, 20, .inl (fun _ => 0))), (glone, .inl (cI, 1040, .inl (fun _ => 0))), (gtable, .inl (cI, 3, .inl (fun _ => 0))), (gcommittee, .inl (cI, 4, .inl (upd (upd (upd (upd (fun _ => 0) 0 (-1)) 1 (-1)) 2 (-1)) 3 (-1)))), (gentry, .inl (cI, 480, .inl (fun _ => 0))), (gchange, .inl (cI, 480, .inl (fun _ => 0))), (gyesBy, .inl (cI, 40, .inl (fun _ => 0))), (gnoBy, .inl (cI, 40, .inl (fun _ => 0)))] sz)) 0 0 (va_A [(m0, .inr (12, [.ref gweight, .ref gpresent, .ref gspeeches, .int 0, .int 50, .int 0, .int 0, .ref gbuffer, .ref gstate, .ref gplace, .ref gmover, .ref gpart, .ref gamended, .ref gmany, .ref gclause, .ref gfirstMany, .ref gfirstClause, .int 0, .int 0, .int 0, .int (-1), .ref gresolution, .ref gmotion, .ref gaway, .ref gawayMany, .ref gawayOrder, .ref gtable, .ref gcommittee, .int 0, .int 0, .int 0, .int 0, .int 0, .int 0, .int 0, .int 0, .int (-5), .int 0, .int 0, .ref glone, .int 0, .ref gentry, .ref gchange, .int 0, .int (-1), .int 0, .int 0, .ref gyesBy, .ref gnoBy, .int 0, .int 0, .int 0, .int 0, .int 0, .int 0, .ref gdraft, .ref grow, .ref growMany, .ref growFloats, .ref gsaved, .int 1, .int 1, .int (nI 0)])), (gsaved, .inl (cI, 5000, .inl f)), (gweight, .inl (cI, 12, .inl (fun _ => 0))), (gpresent, .inl (cI, 12, .inl (fun _ => 0))), (gspeeches, .inl (cI, 12, .inl (fun _ => 0))), (gbuffer, .inl (cI, 8, .inl (fun _ => 0))), (gstate, .inl (cI, 20, .inl (fun _ => 0))), (gplace, .inl (cI, 20, .inl (fun _ => 0))), (gmover, .inl (cI, 20, .inl (fun _ => 0))), (gpart, .inl (cI, 20, .inl (fun _ => 0))), (gamended, .inl (cI, 20, .inl (fun _ => 0))), (gmany, .inl (cI, 20, .inl (fun _ => 0))), (gclause, .inl (cI, 160, .inl (fun _ => 0))), (gfirstMany, .inl (cI, 20, .inl (fun _ => 0))), (gfirstClause, .inl (cI, 160, .inl (fun _ => 0))), (gresolution, .inl (cI, 40, .inl (fun _ => 0))), (gmotion, .inl (cI, 60, .inl (fun _ => 0))), (gaway, .inl (cI, 1200, .inl (fun _ => 0))), (gawayMany, .inl (cI, 20, .inl (fun _ => 0))), (gawayOrder, .inl (cI, 20, .inl (fun _ => 0))), (glone, .inl (cI, 1040, .inl (fun _ => 0))), (gtable, .inl (cI, 3, .inl (fun _ => 0))), (gcommittee, .inl (cI, 4, .inl (upd (upd (upd (upd (fun _ => 0) 0 (-1)) 1 (-1)) 2 (-1)) 3 (-1)))), (gentry, .inl (cI, 480, .inl (fun _ => 0))), (gchange, .inl (cI, 480, .inl (fun _ => 0))), (gyesBy, .inl (cI, 40, .inl (fun _ => 0))), (gnoBy, .inl (cI, 40, .inl (fun _ => 0)))] sz) := by
  sorry
theorem dX12_handsLast_0 : decode cX12_handsLast 0 = .ok (.aload_n 0, 1) := by decide +kernel
theorem dX12_handsLast_1 : decode cX12_handsLast 1 = .ok (.aload_n 0, 1) := by decide +kernel
theorem dX12_handsLast_2 : decode cX12_handsLast 2 = .ok (.aload_n 0, 1) := by decide +kernel
theorem dX12_handsLast_3 : decode cX12_handsLast 3 = .ok (.getfield 91, 3) := by decide +kernel
theorem dX12_handsLast_6 : decode cX12_handsLast 6 = .ok (.invokevirtual 375, 3) := by decide +kernel
theorem dX12_handsLast_9 : decode cX12_handsLast 9 = .ok (.putfield 91, 3) := by decide +kernel
theorem dX12_handsLast_12 : decode cX12_handsLast 12 = .ok (.aload_n 0, 1) := by decide +kernel
theorem dX12_handsLast_13 : decode cX12_handsLast 13 = .ok (.aload_n 0, 1) := by decide +kernel
theorem dX12_handsLast_14 : decode cX12_handsLast 14 = .ok (.aload_n 0, 1) := by decide +kernel
theorem dX12_handsLast_15 : decode cX12_handsLast 15 = .ok (.getfield 192, 3) := by decide +kernel
theorem dX12_handsLast_18 : decode cX12_handsLast 18 = .ok (.invokevirtual 375, 3) := by decide +kernel
theorem dX12_handsLast_21 : decode cX12_handsLast 21 = .ok (.putfield 192, 3) := by decide +kernel
theorem dX12_handsLast_24 : decode cX12_handsLast 24 = .ok (.aload_n 0, 1) := by decide +kernel
theorem dX12_handsLast_25 : decode cX12_handsLast 25 = .ok (.aload_n 0, 1) := by decide +kernel
theorem dX12_handsLast_26 : decode cX12_handsLast 26 = .ok (.aload_n 0, 1) := by decide +kernel
theorem dX12_handsLast_27 : decode cX12_handsLast 27 = .ok (.getfield 189, 3) := by decide +kernel
theorem dX12_handsLast_30 : decode cX12_handsLast 30 = .ok (.invokevirtual 375, 3) := by decide +kernel
theorem dX12_handsLast_33 : decode cX12_handsLast 33 = .ok (.putfield 189, 3) := by decide +kernel
theorem dX12_handsLast_36 : decode cX12_handsLast 36 = .ok (.aload_n 0, 1) := by decide +kernel
theorem dX12_handsLast_37 : decode cX12_handsLast 37 = .ok (.aload_n 0, 1) := by decide +kernel
theorem dX12_handsLast_38 : decode cX12_handsLast 38 = .ok (.aload_n 0, 1) := by decide +kernel
theorem dX12_handsLast_39 : decode cX12_handsLast 39 = .ok (.getfield 292, 3) := by decide +kernel
theorem dX12_handsLast_42 : decode cX12_handsLast 42 = .ok (.invokevirtual 375, 3) := by decide +kernel
theorem dX12_handsLast_45 : decode cX12_handsLast 45 = .ok (.putfield 292, 3) := by decide +kernel
theorem dX12_handsLast_48 : decode cX12_handsLast 48 = .ok (.aload_n 0, 1) := by decide +kernel
theorem dX12_handsLast_49 : decode cX12_handsLast 49 = .ok (.aload_n 0, 1) := by decide +kernel
theorem dX12_handsLast_50 : decode cX12_handsLast 50 = .ok (.aload_n 0, 1) := by decide +kernel
theorem dX12_handsLast_51 : decode cX12_handsLast 51 = .ok (.getfield 277, 3) := by decide +kernel
theorem dX12_handsLast_54 : decode cX12_handsLast 54 = .ok (.invokevirtual 375, 3) := by decide +kernel
theorem dX12_handsLast_57 : decode cX12_handsLast 57 = .ok (.putfield 277, 3) := by decide +kernel
theorem dX12_handsLast_60 : decode cX12_handsLast 60 = .ok (.aload_n 0, 1) := by decide +kernel
theorem dX12_handsLast_61 : decode cX12_handsLast 61 = .ok (.aload_n 0, 1) := by decide +kernel
theorem dX12_handsLast_62 : decode cX12_handsLast 62 = .ok (.aload_n 0, 1) := by decide +kernel
theorem dX12_handsLast_63 : decode cX12_handsLast 63 = .ok (.getfield 280, 3) := by decide +kernel
theorem dX12_handsLast_66 : decode cX12_handsLast 66 = .ok (.invokevirtual 375, 3) := by decide +kernel
theorem dX12_handsLast_69 : decode cX12_handsLast 69 = .ok (.putfield 280, 3) := by decide +kernel
theorem dX12_handsLast_72 : decode cX12_handsLast 72 = .ok (.aload_n 0, 1) := by decide +kernel
theorem dX12_handsLast_73 : decode cX12_handsLast 73 = .ok (.aload_n 0, 1) := by decide +kernel
theorem dX12_handsLast_74 : decode cX12_handsLast 74 = .ok (.aload_n 0, 1) := by decide +kernel
theorem dX12_handsLast_75 : decode cX12_handsLast 75 = .ok (.getfield 283, 3) := by decide +kernel
theorem dX12_handsLast_78 : decode cX12_handsLast 78 = .ok (.invokevirtual 375, 3) := by decide +kernel
theorem dX12_handsLast_81 : decode cX12_handsLast 81 = .ok (.putfield 283, 3) := by decide +kernel
theorem dX12_handsLast_84 : decode cX12_handsLast 84 = .ok (.aload_n 0, 1) := by decide +kernel
theorem dX12_handsLast_85 : decode cX12_handsLast 85 = .ok (.aload_n 0, 1) := by decide +kernel
theorem dX12_handsLast_86 : decode cX12_handsLast 86 = .ok (.aload_n 0, 1) := by decide +kernel
theorem dX12_handsLast_87 : decode cX12_handsLast 87 = .ok (.getfield 286, 3) := by decide +kernel
theorem dX12_handsLast_90 : decode cX12_handsLast 90 = .ok (.invokevirtual 375, 3) := by decide +kernel
theorem dX12_handsLast_93 : decode cX12_handsLast 93 = .ok (.putfield 286, 3) := by decide +kernel
theorem dX12_handsLast_96 : decode cX12_handsLast 96 = .ok (.aload_n 0, 1) := by decide +kernel
theorem dX12_handsLast_97 : decode cX12_handsLast 97 = .ok (.aload_n 0, 1) := by decide +kernel
theorem dX12_handsLast_98 : decode cX12_handsLast 98 = .ok (.aload_n 0, 1) := by decide +kernel
theorem dX12_handsLast_99 : decode cX12_handsLast 99 = .ok (.getfield 289, 3) := by decide +kernel
theorem dX12_handsLast_102 : decode cX12_handsLast 102 = .ok (.invokevirtual 375, 3) := by decide +kernel
theorem dX12_handsLast_105 : decode cX12_handsLast 105 = .ok (.putfield 289, 3) := by decide +kernel
theorem dX12_handsLast_108 : decode cX12_handsLast 108 = .ok (.return_, 1) := by decide +kernel
set_option maxRecDepth 100000 in
theorem q_1518 : (.code yX12_hand cX12_hand 3 (some .int)) ∈ lw_all := List.mem_filter.mpr ⟨List.mem_of_getElem? (i := 1518) (rfl), by decide +kernel⟩
set_option maxRecDepth 100000 in
theorem q_1066 : (.fieldLink RX12 189 "AssemblyChairModel" "lastTried" "I") ∈ lw_all := List.mem_filter.mpr ⟨List.mem_of_getElem? (i := 1066) (by decide +kernel), by decide +kernel⟩
set_option maxRecDepth 100000 in
theorem q_1065 : (.fieldLink RX12 192 "AssemblyChairModel" "lastWinners" "I") ∈ lw_all := List.mem_filter.mpr ⟨List.mem_of_getElem? (i := 1065) (by decide +kernel), by decide +kernel⟩
set_option maxRecDepth 100000 in
theorem q_1070 : (.fieldLink RX12 277 "AssemblyChairModel" "lastYes" "I") ∈ lw_all := List.mem_filter.mpr ⟨List.mem_of_getElem? (i := 1070) (by decide +kernel), by decide +kernel⟩
set_option maxRecDepth 100000 in
theorem q_1071 : (.fieldLink RX12 280 "AssemblyChairModel" "lastNo" "I") ∈ lw_all := List.mem_filter.mpr ⟨List.mem_of_getElem? (i := 1071) (by decide +kernel), by decide +kernel⟩
set_option maxRecDepth 100000 in
theorem q_1072 : (.fieldLink RX12 283 "AssemblyChairModel" "lastNeither" "I") ∈ lw_all := List.mem_filter.mpr ⟨List.mem_of_getElem? (i := 1072) (by decide +kernel), by decide +kernel⟩
set_option maxRecDepth 100000 in
theorem q_1073 : (.fieldLink RX12 286 "AssemblyChairModel" "lastAdopted" "I") ∈ lw_all := List.mem_filter.mpr ⟨List.mem_of_getElem? (i := 1073) (by decide +kernel), by decide +kernel⟩
set_option maxRecDepth 100000 in
theorem q_1074 : (.fieldLink RX12 289 "AssemblyChairModel" "lastKind" "I") ∈ lw_all := List.mem_filter.mpr ⟨List.mem_of_getElem? (i := 1074) (by decide +kernel), by decide +kernel⟩
set_option maxRecDepth 100000 in
theorem q_1517 : (.instanceMethod yX12_hand) ∈ lw_all := List.mem_filter.mpr ⟨List.mem_of_getElem? (i := 1517) (by decide +kernel), by decide +kernel⟩
set_option maxRecDepth 100000 in
theorem q_1515 : (.methodLink RX12 375 yX12_hand) ∈ lw_all := List.mem_filter.mpr ⟨List.mem_of_getElem? (i := 1515) (by decide +kernel), by decide +kernel⟩
set_option maxRecDepth 100000 in
theorem q_62 : (.selects RX12 yX12_hand yX12_hand) ∈ lw_all := List.mem_filter.mpr ⟨List.mem_of_getElem? (i := 62) (by decide +kernel), by decide +kernel⟩
set_option maxHeartbeats 4000000 in
set_option maxRecDepth 100000 in
theorem c_X12_handsLast (l : Launch) (D : va_G) (cI cQ cM cR : ClassId) (m0 : Nat) (gweight : Nat) (gpresent : Nat) (gspeeches : Nat) (gbuffer : Nat) (gstate : Nat) (gplace : Nat) (gmover : Nat) (gpart : Nat) (gamended : Nat) (gmany : Nat) (gclause : Nat) (gfirstMany : Nat) (gfirstClause : Nat) (gresolution : Nat) (gmotion : Nat) (gaway : Nat) (gawayMany : Nat) (gawayOrder : Nat) (gtable : Nat) (gcommittee : Nat) (glone : Nat) (gentry : Nat) (gchange : Nat) (gyesBy : Nat) (gnoBy : Nat) (gdraft : Nat) (grow : Nat) (growMany : Nat) (growFloats : Nat) (gsaved : Nat) (f : Nat → Int32) (sz : Nat) : Met l yX12_handsLast (ws_ yX12_handsLast cX12_handsLast 1 none) ({ frames := 1, cells := 0, slots := 0, locals := 22 }) (PW D cI cQ cM cR [.ref m0] [(m0, .inr (12, [.ref gweight, .ref gpresent, .ref gspeeches, .int 0, .int 50, .int 0, .int 0, .ref gbuffer, .ref gstate, .ref gplace, .ref gmover, .ref gpart, .ref gamended, .ref gmany, .ref gclause, .ref gfirstMany, .ref gfirstClause, .int 0, .int 0, .int 0, .int (-1), .ref gresolution, .ref gmotion, .ref gaway, .ref gawayMany, .ref gawayOrder, .ref gtable, .ref gcommittee, .int 0, .int 0, .int 0, .int 0, .int 0, .int 0, .int 0, .int 0, .int (-5), .int 0, .int 0, .ref glone, .int 0, .ref gentry, .ref gchange, .int 0, .int (-1), .int 0, .int 0, .ref gyesBy, .ref gnoBy, .int 0, .int 0, .int 0, .int 0, .int 0, .int 0, .ref gdraft, .ref grow, .ref growMany, .ref growFloats, .ref gsaved, .int 1, .int 1, .int (nI 3952)])), (gsaved, .inl (cI, 5000, .inl f))] sz) (va_Qv (fun _ => True) (fun (_ : Unit) (t : State) => va_P D vwCl [(m0, .inr (12, [.ref gweight, .ref gpresent, .ref gspeeches, .int 0, .int 50, .int 0, .int 0, .ref gbuffer, .ref gstate, .ref gplace, .ref gmover, .ref gpart, .ref gamended, .ref gmany, .ref gclause, .ref gfirstMany, .ref gfirstClause, .int 0, .int 0, .int 0, .int (-1), .ref gresolution, .ref gmotion, .ref gaway, .ref gawayMany, .ref gawayOrder, .ref gtable, .ref gcommittee, .int 0, .int 0, .int 0, .int 0, .int 0, .int 0, .int 0, .int 0, .int (-5), .int 0, .int 0, .ref glone, .int 0, .ref gentry, .ref gchange, .int 0, .int (-1), .int 0, .int 0, .ref gyesBy, .ref gnoBy, .int 0, .int 0, .int 0, .int 0, .int 0, .int 0, .ref gdraft, .ref grow, .ref growMany, .ref growFloats, .ref gsaved, .int 1, .int 1, .int (nI 3961)]))] t.heap ∧ va_D (va_A [(m0, .inr (12, [.ref gweight, .ref gpresent, .ref gspeeches, .int 0, .int 50, .int 0, .int 0, .ref gbuffer, .ref gstate, .ref gplace, .ref gmover, .ref gpart, .ref gamended, .ref gmany, .ref gclause, .ref gfirstMany, .ref gfirstClause, .int 0, .int 0, .int 0, .int (-1), .ref gresolution, .ref gmotion, .ref gaway, .ref gawayMany, .ref gawayOrder, .ref gtable, .ref gcommittee, .int 0, .int 0, .int 0, .int 0, .int 0, .int 0, .int 0, .int 0, .int (-5), .int 0, .int 0, .ref glone, .int 0, .ref gentry, .ref gchange, .int 0, .int (-1), .int 0, .int 0, .ref gyesBy, .ref gnoBy, .int 0, .int 0, .int 0, .int 0, .int 0, .int 0, .ref gdraft, .ref grow, .ref growMany, .ref growFloats, .ref gsaved, .int 1, .int 1, .int (nI 3952)])), (gsaved, .inl (cI, 5000, .inl f))] sz) [(m0, .inr (12, [.ref gweight, .ref gpresent, .ref gspeeches, .int 0, .int 50, .int 0, .int 0, .ref gbuffer, .ref gstate, .ref gplace, .ref gmover, .ref gpart, .ref gamended, .ref gmany, .ref gclause, .ref gfirstMany, .ref gfirstClause, .int 0, .int 0, .int 0, .int (-1), .ref gresolution, .ref gmotion, .ref gaway, .ref gawayMany, .ref gawayOrder, .ref gtable, .ref gcommittee, .int 0, .int 0, .int 0, .int 0, .int 0, .int 0, .int 0, .int 0, .int (-5), .int 0, .int 0, .ref glone, .int 0, .ref gentry, .ref gchange, .int 0, .int (-1), .int 0, .int 0, .ref gyesBy, .ref gnoBy, .int 0, .int 0, .int 0, .int 0, .int 0, .int 0, .ref gdraft, .ref grow, .ref growMany, .ref growFloats, .ref gsaved, .int 1, .int 1, .int (nI 3961)]))]) (va_A [(m0, .inr (12, [.ref gweight, .ref gpresent, .ref gspeeches, .int 0, .int 50, .int 0, .int 0, .ref gbuffer, .ref gstate, .ref gplace, .ref gmover, .ref gpart, .ref gamended, .ref gmany, .ref gclause, .ref gfirstMany, .ref gfirstClause, .int 0, .int 0, .int 0, .int (-1), .ref gresolution, .ref gmotion, .ref gaway, .ref gawayMany, .ref gawayOrder, .ref gtable, .ref gcommittee, .int 0, .int 0, .int 0, .int 0, .int 0, .int 0, .int 0, .int 0, .int (-5), .int 0, .int 0, .ref glone, .int 0, .ref gentry, .ref gchange, .int 0, .int (-1), .int 0, .int 0, .ref gyesBy, .ref gnoBy, .int 0, .int 0, .int 0, .int 0, .int 0, .int 0, .ref gdraft, .ref grow, .ref growMany, .ref growFloats, .ref gsaved, .int 1, .int 1, .int (nI 3952)])), (gsaved, .inl (cI, 5000, .inl f))] sz)) 0 0 (va_A [(m0, .inr (12, [.ref gweight, .ref gpresent, .ref gspeeches, .int 0, .int 50, .int 0, .int 0, .ref gbuffer, .ref gstate, .ref gplace, .ref gmover, .ref gpart, .ref gamended, .ref gmany, .ref gclause, .ref gfirstMany, .ref gfirstClause, .int 0, .int 0, .int 0, .int (-1), .ref gresolution, .ref gmotion, .ref gaway, .ref gawayMany, .ref gawayOrder, .ref gtable, .ref gcommittee, .int 0, .int 0, .int 0, .int 0, .int 0, .int 0, .int 0, .int 0, .int (-5), .int 0, .int 0, .ref glone, .int 0, .ref gentry, .ref gchange, .int 0, .int (-1), .int 0, .int 0, .ref gyesBy, .ref gnoBy, .int 0, .int 0, .int 0, .int 0, .int 0, .int 0, .ref gdraft, .ref grow, .ref growMany, .ref growFloats, .ref gsaved, .int 1, .int 1, .int (nI 3952)])), (gsaved, .inl (cI, 5000, .inl f))] sz) := by
  sorry
theorem dX12_handsAll_0 : decode cX12_handsAll 0 = .ok (.aload_n 0, 1) := by decide +kernel
theorem dX12_handsAll_1 : decode cX12_handsAll 1 = .ok (.iload_n 1, 1) := by decide +kernel
theorem dX12_handsAll_2 : decode cX12_handsAll 2 = .ok (.putfield 361, 3) := by decide +kernel
theorem dX12_handsAll_5 : decode cX12_handsAll 5 = .ok (.aload_n 0, 1) := by decide +kernel
theorem dX12_handsAll_6 : decode cX12_handsAll 6 = .ok (.iconst 0, 1) := by decide +kernel
theorem dX12_handsAll_7 : decode cX12_handsAll 7 = .ok (.putfield 365, 3) := by decide +kernel
theorem dX12_handsAll_10 : decode cX12_handsAll 10 = .ok (.aload_n 0, 1) := by decide +kernel
theorem dX12_handsAll_11 : decode cX12_handsAll 11 = .ok (.invokevirtual 372, 3) := by decide +kernel
theorem dX12_handsAll_14 : decode cX12_handsAll 14 = .ok (.aload_n 0, 1) := by decide +kernel
theorem dX12_handsAll_15 : decode cX12_handsAll 15 = .ok (.aload_n 0, 1) := by decide +kernel
theorem dX12_handsAll_16 : decode cX12_handsAll 16 = .ok (.aload_n 0, 1) := by decide +kernel
theorem dX12_handsAll_17 : decode cX12_handsAll 17 = .ok (.getfield 115, 3) := by decide +kernel
theorem dX12_handsAll_20 : decode cX12_handsAll 20 = .ok (.invokevirtual 375, 3) := by decide +kernel
theorem dX12_handsAll_23 : decode cX12_handsAll 23 = .ok (.putfield 115, 3) := by decide +kernel
theorem dX12_handsAll_26 : decode cX12_handsAll 26 = .ok (.aload_n 0, 1) := by decide +kernel
theorem dX12_handsAll_27 : decode cX12_handsAll 27 = .ok (.aload_n 0, 1) := by decide +kernel
theorem dX12_handsAll_28 : decode cX12_handsAll 28 = .ok (.aload_n 0, 1) := by decide +kernel
theorem dX12_handsAll_29 : decode cX12_handsAll 29 = .ok (.getfield 21, 3) := by decide +kernel
theorem dX12_handsAll_32 : decode cX12_handsAll 32 = .ok (.invokevirtual 375, 3) := by decide +kernel
theorem dX12_handsAll_35 : decode cX12_handsAll 35 = .ok (.putfield 21, 3) := by decide +kernel
theorem dX12_handsAll_38 : decode cX12_handsAll 38 = .ok (.aload_n 0, 1) := by decide +kernel
theorem dX12_handsAll_39 : decode cX12_handsAll 39 = .ok (.aload_n 0, 1) := by decide +kernel
theorem dX12_handsAll_40 : decode cX12_handsAll 40 = .ok (.aload_n 0, 1) := by decide +kernel
theorem dX12_handsAll_41 : decode cX12_handsAll 41 = .ok (.getfield 177, 3) := by decide +kernel
theorem dX12_handsAll_44 : decode cX12_handsAll 44 = .ok (.invokevirtual 375, 3) := by decide +kernel
theorem dX12_handsAll_47 : decode cX12_handsAll 47 = .ok (.putfield 177, 3) := by decide +kernel
theorem dX12_handsAll_50 : decode cX12_handsAll 50 = .ok (.aload_n 0, 1) := by decide +kernel
theorem dX12_handsAll_51 : decode cX12_handsAll 51 = .ok (.aload_n 0, 1) := by decide +kernel
theorem dX12_handsAll_52 : decode cX12_handsAll 52 = .ok (.aload_n 0, 1) := by decide +kernel
theorem dX12_handsAll_53 : decode cX12_handsAll 53 = .ok (.getfield 198, 3) := by decide +kernel
theorem dX12_handsAll_56 : decode cX12_handsAll 56 = .ok (.invokevirtual 375, 3) := by decide +kernel
theorem dX12_handsAll_59 : decode cX12_handsAll 59 = .ok (.putfield 198, 3) := by decide +kernel
theorem dX12_handsAll_62 : decode cX12_handsAll 62 = .ok (.aload_n 0, 1) := by decide +kernel
theorem dX12_handsAll_63 : decode cX12_handsAll 63 = .ok (.aload_n 0, 1) := by decide +kernel
theorem dX12_handsAll_64 : decode cX12_handsAll 64 = .ok (.aload_n 0, 1) := by decide +kernel
theorem dX12_handsAll_65 : decode cX12_handsAll 65 = .ok (.getfield 141, 3) := by decide +kernel
theorem dX12_handsAll_68 : decode cX12_handsAll 68 = .ok (.invokevirtual 375, 3) := by decide +kernel
theorem dX12_handsAll_71 : decode cX12_handsAll 71 = .ok (.putfield 141, 3) := by decide +kernel
theorem dX12_handsAll_74 : decode cX12_handsAll 74 = .ok (.aload_n 0, 1) := by decide +kernel
theorem dX12_handsAll_75 : decode cX12_handsAll 75 = .ok (.aload_n 0, 1) := by decide +kernel
theorem dX12_handsAll_76 : decode cX12_handsAll 76 = .ok (.aload_n 0, 1) := by decide +kernel
theorem dX12_handsAll_77 : decode cX12_handsAll 77 = .ok (.getfield 138, 3) := by decide +kernel
theorem dX12_handsAll_80 : decode cX12_handsAll 80 = .ok (.invokevirtual 375, 3) := by decide +kernel
theorem dX12_handsAll_83 : decode cX12_handsAll 83 = .ok (.putfield 138, 3) := by decide +kernel
theorem dX12_handsAll_86 : decode cX12_handsAll 86 = .ok (.aload_n 0, 1) := by decide +kernel
theorem dX12_handsAll_87 : decode cX12_handsAll 87 = .ok (.aload_n 0, 1) := by decide +kernel
theorem dX12_handsAll_88 : decode cX12_handsAll 88 = .ok (.aload_n 0, 1) := by decide +kernel
theorem dX12_handsAll_89 : decode cX12_handsAll 89 = .ok (.getfield 243, 3) := by decide +kernel
theorem dX12_handsAll_92 : decode cX12_handsAll 92 = .ok (.invokevirtual 375, 3) := by decide +kernel
theorem dX12_handsAll_95 : decode cX12_handsAll 95 = .ok (.putfield 243, 3) := by decide +kernel
theorem dX12_handsAll_98 : decode cX12_handsAll 98 = .ok (.aload_n 0, 1) := by decide +kernel
theorem dX12_handsAll_99 : decode cX12_handsAll 99 = .ok (.aload_n 0, 1) := by decide +kernel
theorem dX12_handsAll_100 : decode cX12_handsAll 100 = .ok (.aload_n 0, 1) := by decide +kernel
theorem dX12_handsAll_101 : decode cX12_handsAll 101 = .ok (.getfield 55, 3) := by decide +kernel
theorem dX12_handsAll_104 : decode cX12_handsAll 104 = .ok (.invokevirtual 375, 3) := by decide +kernel
theorem dX12_handsAll_107 : decode cX12_handsAll 107 = .ok (.putfield 55, 3) := by decide +kernel
theorem dX12_handsAll_110 : decode cX12_handsAll 110 = .ok (.aload_n 0, 1) := by decide +kernel
theorem dX12_handsAll_111 : decode cX12_handsAll 111 = .ok (.aload_n 0, 1) := by decide +kernel
theorem dX12_handsAll_112 : decode cX12_handsAll 112 = .ok (.aload_n 0, 1) := by decide +kernel
theorem dX12_handsAll_113 : decode cX12_handsAll 113 = .ok (.getfield 144, 3) := by decide +kernel
theorem dX12_handsAll_116 : decode cX12_handsAll 116 = .ok (.invokevirtual 375, 3) := by decide +kernel
theorem dX12_handsAll_119 : decode cX12_handsAll 119 = .ok (.putfield 144, 3) := by decide +kernel
theorem dX12_handsAll_122 : decode cX12_handsAll 122 = .ok (.aload_n 0, 1) := by decide +kernel
theorem dX12_handsAll_123 : decode cX12_handsAll 123 = .ok (.aload_n 0, 1) := by decide +kernel
theorem dX12_handsAll_124 : decode cX12_handsAll 124 = .ok (.aload_n 0, 1) := by decide +kernel
theorem dX12_handsAll_125 : decode cX12_handsAll 125 = .ok (.getfield 195, 3) := by decide +kernel
theorem dX12_handsAll_128 : decode cX12_handsAll 128 = .ok (.invokevirtual 375, 3) := by decide +kernel
theorem dX12_handsAll_131 : decode cX12_handsAll 131 = .ok (.putfield 195, 3) := by decide +kernel
theorem dX12_handsAll_134 : decode cX12_handsAll 134 = .ok (.aload_n 0, 1) := by decide +kernel
theorem dX12_handsAll_135 : decode cX12_handsAll 135 = .ok (.aload_n 0, 1) := by decide +kernel
theorem dX12_handsAll_136 : decode cX12_handsAll 136 = .ok (.aload_n 0, 1) := by decide +kernel
theorem dX12_handsAll_137 : decode cX12_handsAll 137 = .ok (.getfield 164, 3) := by decide +kernel
theorem dX12_handsAll_140 : decode cX12_handsAll 140 = .ok (.invokevirtual 375, 3) := by decide +kernel
theorem dX12_handsAll_143 : decode cX12_handsAll 143 = .ok (.putfield 164, 3) := by decide +kernel
theorem dX12_handsAll_146 : decode cX12_handsAll 146 = .ok (.aload_n 0, 1) := by decide +kernel
theorem dX12_handsAll_147 : decode cX12_handsAll 147 = .ok (.aload_n 0, 1) := by decide +kernel
theorem dX12_handsAll_148 : decode cX12_handsAll 148 = .ok (.aload_n 0, 1) := by decide +kernel
theorem dX12_handsAll_149 : decode cX12_handsAll 149 = .ok (.getfield 167, 3) := by decide +kernel
theorem dX12_handsAll_152 : decode cX12_handsAll 152 = .ok (.invokevirtual 375, 3) := by decide +kernel
theorem dX12_handsAll_155 : decode cX12_handsAll 155 = .ok (.putfield 167, 3) := by decide +kernel
theorem dX12_handsAll_158 : decode cX12_handsAll 158 = .ok (.aload_n 0, 1) := by decide +kernel
theorem dX12_handsAll_159 : decode cX12_handsAll 159 = .ok (.aload_n 0, 1) := by decide +kernel
theorem dX12_handsAll_160 : decode cX12_handsAll 160 = .ok (.aload_n 0, 1) := by decide +kernel
theorem dX12_handsAll_161 : decode cX12_handsAll 161 = .ok (.getfield 226, 3) := by decide +kernel
theorem dX12_handsAll_164 : decode cX12_handsAll 164 = .ok (.invokevirtual 375, 3) := by decide +kernel
theorem dX12_handsAll_167 : decode cX12_handsAll 167 = .ok (.putfield 226, 3) := by decide +kernel
theorem dX12_handsAll_170 : decode cX12_handsAll 170 = .ok (.aload_n 0, 1) := by decide +kernel
theorem dX12_handsAll_171 : decode cX12_handsAll 171 = .ok (.aload_n 0, 1) := by decide +kernel
theorem dX12_handsAll_172 : decode cX12_handsAll 172 = .ok (.aload_n 0, 1) := by decide +kernel
theorem dX12_handsAll_173 : decode cX12_handsAll 173 = .ok (.getfield 306, 3) := by decide +kernel
theorem dX12_handsAll_176 : decode cX12_handsAll 176 = .ok (.invokevirtual 375, 3) := by decide +kernel
theorem dX12_handsAll_179 : decode cX12_handsAll 179 = .ok (.putfield 306, 3) := by decide +kernel
theorem dX12_handsAll_182 : decode cX12_handsAll 182 = .ok (.aload_n 0, 1) := by decide +kernel
theorem dX12_handsAll_183 : decode cX12_handsAll 183 = .ok (.aload_n 0, 1) := by decide +kernel
theorem dX12_handsAll_184 : decode cX12_handsAll 184 = .ok (.aload_n 0, 1) := by decide +kernel
theorem dX12_handsAll_185 : decode cX12_handsAll 185 = .ok (.getfield 309, 3) := by decide +kernel
theorem dX12_handsAll_188 : decode cX12_handsAll 188 = .ok (.invokevirtual 375, 3) := by decide +kernel
theorem dX12_handsAll_191 : decode cX12_handsAll 191 = .ok (.putfield 309, 3) := by decide +kernel
theorem dX12_handsAll_194 : decode cX12_handsAll 194 = .ok (.aload_n 0, 1) := by decide +kernel
theorem dX12_handsAll_195 : decode cX12_handsAll 195 = .ok (.aload_n 0, 1) := by decide +kernel
theorem dX12_handsAll_196 : decode cX12_handsAll 196 = .ok (.aload_n 0, 1) := by decide +kernel
theorem dX12_handsAll_197 : decode cX12_handsAll 197 = .ok (.getfield 261, 3) := by decide +kernel
theorem dX12_handsAll_200 : decode cX12_handsAll 200 = .ok (.invokevirtual 375, 3) := by decide +kernel
theorem dX12_handsAll_203 : decode cX12_handsAll 203 = .ok (.putfield 261, 3) := by decide +kernel
theorem dX12_handsAll_206 : decode cX12_handsAll 206 = .ok (.aload_n 0, 1) := by decide +kernel
theorem dX12_handsAll_207 : decode cX12_handsAll 207 = .ok (.aload_n 0, 1) := by decide +kernel
theorem dX12_handsAll_208 : decode cX12_handsAll 208 = .ok (.aload_n 0, 1) := by decide +kernel
theorem dX12_handsAll_209 : decode cX12_handsAll 209 = .ok (.getfield 240, 3) := by decide +kernel
theorem dX12_handsAll_212 : decode cX12_handsAll 212 = .ok (.invokevirtual 375, 3) := by decide +kernel
theorem dX12_handsAll_215 : decode cX12_handsAll 215 = .ok (.putfield 240, 3) := by decide +kernel
theorem dX12_handsAll_218 : decode cX12_handsAll 218 = .ok (.aload_n 0, 1) := by decide +kernel
theorem dX12_handsAll_219 : decode cX12_handsAll 219 = .ok (.aload_n 0, 1) := by decide +kernel
theorem dX12_handsAll_220 : decode cX12_handsAll 220 = .ok (.aload_n 0, 1) := by decide +kernel
theorem dX12_handsAll_221 : decode cX12_handsAll 221 = .ok (.getfield 79, 3) := by decide +kernel
theorem dX12_handsAll_224 : decode cX12_handsAll 224 = .ok (.invokevirtual 375, 3) := by decide +kernel
theorem dX12_handsAll_227 : decode cX12_handsAll 227 = .ok (.putfield 79, 3) := by decide +kernel
theorem dX12_handsAll_230 : decode cX12_handsAll 230 = .ok (.aload_n 0, 1) := by decide +kernel
theorem dX12_handsAll_231 : decode cX12_handsAll 231 = .ok (.aload_n 0, 1) := by decide +kernel
theorem dX12_handsAll_232 : decode cX12_handsAll 232 = .ok (.aload_n 0, 1) := by decide +kernel
theorem dX12_handsAll_233 : decode cX12_handsAll 233 = .ok (.getfield 151, 3) := by decide +kernel
theorem dX12_handsAll_236 : decode cX12_handsAll 236 = .ok (.invokevirtual 375, 3) := by decide +kernel
theorem dX12_handsAll_239 : decode cX12_handsAll 239 = .ok (.putfield 151, 3) := by decide +kernel
theorem dX12_handsAll_242 : decode cX12_handsAll 242 = .ok (.aload_n 0, 1) := by decide +kernel
theorem dX12_handsAll_243 : decode cX12_handsAll 243 = .ok (.aload_n 0, 1) := by decide +kernel
theorem dX12_handsAll_244 : decode cX12_handsAll 244 = .ok (.aload_n 0, 1) := by decide +kernel
theorem dX12_handsAll_245 : decode cX12_handsAll 245 = .ok (.getfield 154, 3) := by decide +kernel
theorem dX12_handsAll_248 : decode cX12_handsAll 248 = .ok (.invokevirtual 375, 3) := by decide +kernel
theorem dX12_handsAll_251 : decode cX12_handsAll 251 = .ok (.putfield 154, 3) := by decide +kernel
theorem dX12_handsAll_254 : decode cX12_handsAll 254 = .ok (.aload_n 0, 1) := by decide +kernel
theorem dX12_handsAll_255 : decode cX12_handsAll 255 = .ok (.aload_n 0, 1) := by decide +kernel
theorem dX12_handsAll_256 : decode cX12_handsAll 256 = .ok (.aload_n 0, 1) := by decide +kernel
theorem dX12_handsAll_257 : decode cX12_handsAll 257 = .ok (.getfield 174, 3) := by decide +kernel
theorem dX12_handsAll_260 : decode cX12_handsAll 260 = .ok (.invokevirtual 375, 3) := by decide +kernel
theorem dX12_handsAll_263 : decode cX12_handsAll 263 = .ok (.putfield 174, 3) := by decide +kernel
theorem dX12_handsAll_266 : decode cX12_handsAll 266 = .ok (.aload_n 0, 1) := by decide +kernel
theorem dX12_handsAll_267 : decode cX12_handsAll 267 = .ok (.invokevirtual 378, 3) := by decide +kernel
theorem dX12_handsAll_270 : decode cX12_handsAll 270 = .ok (.return_, 1) := by decide +kernel
set_option maxRecDepth 100000 in
theorem q_1522 : (.code yX12_handsLast cX12_handsLast 1 none) ∈ lw_all := List.mem_filter.mpr ⟨List.mem_of_getElem? (i := 1522) (rfl), by decide +kernel⟩
set_option maxRecDepth 100000 in
theorem q_1510 : (.code yX12_handsRows cX12_handsRows 1 none) ∈ lw_all := List.mem_filter.mpr ⟨List.mem_of_getElem? (i := 1510) (rfl), by decide +kernel⟩
set_option maxRecDepth 100000 in
theorem q_1057 : (.fieldLink RX12 151 "AssemblyChairModel" "isClosed" "I") ∈ lw_all := List.mem_filter.mpr ⟨List.mem_of_getElem? (i := 1057) (by decide +kernel), by decide +kernel⟩
set_option maxRecDepth 100000 in
theorem q_1058 : (.fieldLink RX12 154 "AssemblyChairModel" "refused" "I") ∈ lw_all := List.mem_filter.mpr ⟨List.mem_of_getElem? (i := 1058) (by decide +kernel), by decide +kernel⟩
set_option maxRecDepth 100000 in
theorem q_1050 : (.fieldLink RX12 167 "AssemblyChairModel" "orders" "I") ∈ lw_all := List.mem_filter.mpr ⟨List.mem_of_getElem? (i := 1050) (by decide +kernel), by decide +kernel⟩
set_option maxRecDepth 100000 in
theorem q_1521 : (.instanceMethod yX12_handsLast) ∈ lw_all := List.mem_filter.mpr ⟨List.mem_of_getElem? (i := 1521) (by decide +kernel), by decide +kernel⟩
set_option maxRecDepth 100000 in
theorem q_1509 : (.instanceMethod yX12_handsRows) ∈ lw_all := List.mem_filter.mpr ⟨List.mem_of_getElem? (i := 1509) (by decide +kernel), by decide +kernel⟩
set_option maxRecDepth 100000 in
theorem q_1507 : (.methodLink RX12 372 yX12_handsRows) ∈ lw_all := List.mem_filter.mpr ⟨List.mem_of_getElem? (i := 1507) (by decide +kernel), by decide +kernel⟩
set_option maxRecDepth 100000 in
theorem q_1519 : (.methodLink RX12 378 yX12_handsLast) ∈ lw_all := List.mem_filter.mpr ⟨List.mem_of_getElem? (i := 1519) (by decide +kernel), by decide +kernel⟩
set_option maxRecDepth 100000 in
theorem q_63 : (.selects RX12 yX12_handsLast yX12_handsLast) ∈ lw_all := List.mem_filter.mpr ⟨List.mem_of_getElem? (i := 63) (by decide +kernel), by decide +kernel⟩
set_option maxRecDepth 100000 in
theorem q_60 : (.selects RX12 yX12_handsRows yX12_handsRows) ∈ lw_all := List.mem_filter.mpr ⟨List.mem_of_getElem? (i := 60) (by decide +kernel), by decide +kernel⟩
set_option maxHeartbeats 4000000 in
set_option maxRecDepth 100000 in
theorem c_X12_handsAll (l : Launch) (D : va_G) (cI cQ cM cR : ClassId) (m0 : Nat) (gweight : Nat) (gpresent : Nat) (gspeeches : Nat) (gbuffer : Nat) (gstate : Nat) (gplace : Nat) (gmover : Nat) (gpart : Nat) (gamended : Nat) (gmany : Nat) (gclause : Nat) (gfirstMany : Nat) (gfirstClause : Nat) (gresolution : Nat) (gmotion : Nat) (gaway : Nat) (gawayMany : Nat) (gawayOrder : Nat) (gtable : Nat) (gcommittee : Nat) (glone : Nat) (gentry : Nat) (gchange : Nat) (gyesBy : Nat) (gnoBy : Nat) (gdraft : Nat) (grow : Nat) (growMany : Nat) (growFloats : Nat) (gsaved : Nat) (f : Nat → Int32) (sz : Nat) : Met l yX12_handsAll (ws_ yX12_handsAll cX12_handsAll 2 none) ({ frames := 2, cells := 0, slots := 0, locals := 42 }) (PW D cI cQ cM cR [.ref m0, .int 1] [(m0, .inr (12, [.ref gweight, .ref gpresent, .ref gspeeches, .int 0, .int 50, .int 0, .int 0, .ref gbuffer, .ref gstate, .ref gplace, .ref gmover, .ref gpart, .ref gamended, .ref gmany, .ref gclause, .ref gfirstMany, .ref gfirstClause, .int 0, .int 0, .int 0, .int (-1), .ref gresolution, .ref gmotion, .ref gaway, .ref gawayMany, .ref gawayOrder, .ref gtable, .ref gcommittee, .int 0, .int 0, .int 0, .int 0, .int 0, .int 0, .int 0, .int 0, .int (-5), .int 0, .int 0, .ref glone, .int 0, .ref gentry, .ref gchange, .int 0, .int (-1), .int 0, .int 0, .ref gyesBy, .ref gnoBy, .int 0, .int 0, .int 0, .int 0, .int 0, .int 0, .ref gdraft, .ref grow, .ref growMany, .ref growFloats, .ref gsaved, .int 1, .int 0, .int 0])), (gsaved, .inl (cI, 5000, .inl f)), (gweight, .inl (cI, 12, .inl (fun _ => 0))), (gpresent, .inl (cI, 12, .inl (fun _ => 0))), (gspeeches, .inl (cI, 12, .inl (fun _ => 0))), (gbuffer, .inl (cI, 8, .inl (fun _ => 0))), (gstate, .inl (cI, 20, .inl (fun _ => 0))), (gplace, .inl (cI, 20, .inl (fun _ => 0))), (gmover, .inl (cI, 20, .inl (fun _ => 0))), (gpart, .inl (cI, 20, .inl (fun _ => 0))), (gamended, .inl (cI, 20, .inl (fun _ => 0))), (gmany, .inl (cI, 20, .inl (fun _ => 0))), (gclause, .inl (cI, 160, .inl (fun _ => 0))), (gfirstMany, .inl (cI, 20, .inl (fun _ => 0))), (gfirstClause, .inl (cI, 160, .inl (fun _ => 0))), (gresolution, .inl (cI, 40, .inl (fun _ => 0))), (gmotion, .inl (cI, 60, .inl (fun _ => 0))), (gaway, .inl (cI, 1200, .inl (fun _ => 0))), (gawayMany, .inl (cI, 20, .inl (fun _ => 0))), (gawayOrder, .inl (cI, 20, .inl (fun _ => 0))), (glone, .inl (cI, 1040, .inl (fun _ => 0))), (gtable, .inl (cI, 3, .inl (fun _ => 0))), (gcommittee, .inl (cI, 4, .inl (upd (upd (upd (upd (fun _ => 0) 0 (-1)) 1 (-1)) 2 (-1)) 3 (-1)))), (gentry, .inl (cI, 480, .inl (fun _ => 0))), (gchange, .inl (cI, 480, .inl (fun _ => 0))), (gyesBy, .inl (cI, 40, .inl (fun _ => 0))), (gnoBy, .inl (cI, 40, .inl (fun _ => 0)))] sz) (va_Qv (fun _ => True) (fun (_ : Unit) (t : State) => va_P D vwCl [(m0, .inr (12, [.ref gweight, .ref gpresent, .ref gspeeches, .int 0, .int 50, .int 0, .int 0, .ref gbuffer, .ref gstate, .ref gplace, .ref gmover, .ref gpart, .ref gamended, .ref gmany, .ref gclause, .ref gfirstMany, .ref gfirstClause, .int 0, .int 0, .int 0, .int (-1), .ref gresolution, .ref gmotion, .ref gaway, .ref gawayMany, .ref gawayOrder, .ref gtable, .ref gcommittee, .int 0, .int 0, .int 0, .int 0, .int 0, .int 0, .int 0, .int 0, .int (-5), .int 0, .int 0, .ref glone, .int 0, .ref gentry, .ref gchange, .int 0, .int (-1), .int 0, .int 0, .ref gyesBy, .ref gnoBy, .int 0, .int 0, .int 0, .int 0, .int 0, .int 0, .ref gdraft, .ref grow, .ref growMany, .ref growFloats, .ref gsaved, .int 1, .int 1, .int (nI 3961)]))] t.heap ∧ va_D (va_A [(m0, .inr (12, [.ref gweight, .ref gpresent, .ref gspeeches, .int 0, .int 50, .int 0, .int 0, .ref gbuffer, .ref gstate, .ref gplace, .ref gmover, .ref gpart, .ref gamended, .ref gmany, .ref gclause, .ref gfirstMany, .ref gfirstClause, .int 0, .int 0, .int 0, .int (-1), .ref gresolution, .ref gmotion, .ref gaway, .ref gawayMany, .ref gawayOrder, .ref gtable, .ref gcommittee, .int 0, .int 0, .int 0, .int 0, .int 0, .int 0, .int 0, .int 0, .int (-5), .int 0, .int 0, .ref glone, .int 0, .ref gentry, .ref gchange, .int 0, .int (-1), .int 0, .int 0, .ref gyesBy, .ref gnoBy, .int 0, .int 0, .int 0, .int 0, .int 0, .int 0, .ref gdraft, .ref grow, .ref growMany, .ref growFloats, .ref gsaved, .int 1, .int 0, .int 0])), (gsaved, .inl (cI, 5000, .inl f)), (gweight, .inl (cI, 12, .inl (fun _ => 0))), (gpresent, .inl (cI, 12, .inl (fun _ => 0))), (gspeeches, .inl (cI, 12, .inl (fun _ => 0))), (gbuffer, .inl (cI, 8, .inl (fun _ => 0))), (gstate, .inl (cI, 20, .inl (fun _ => 0))), (gplace, .inl (cI, 20, .inl (fun _ => 0))), (gmover, .inl (cI, 20, .inl (fun _ => 0))), (gpart, .inl (cI, 20, .inl (fun _ => 0))), (gamended, .inl (cI, 20, .inl (fun _ => 0))), (gmany, .inl (cI, 20, .inl (fun _ => 0))), (gclause, .inl (cI, 160, .inl (fun _ => 0))), (gfirstMany, .inl (cI, 20, .inl (fun _ => 0))), (gfirstClause, .inl (cI, 160, .inl (fun _ => 0))), (gresolution, .inl (cI, 40, .inl (fun _ => 0))), (gmotion, .inl (cI, 60, .inl (fun _ => 0))), (gaway, .inl (cI, 1200, .inl (fun _ => 0))), (gawayMany, .inl (cI, 20, .inl (fun _ => 0))), (gawayOrder, .inl (cI, 20, .inl (fun _ => 0))), (glone, .inl (cI, 1040, .inl (fun _ => 0))), (gtable, .inl (cI, 3, .inl (fun _ => 0))), (gcommittee, .inl (cI, 4, .inl (upd (upd (upd (upd (fun _ => 0) 0 (-1)) 1 (-1)) 2 (-1)) 3 (-1)))), (gentry, .inl (cI, 480, .inl (fun _ => 0))), (gchange, .inl (cI, 480, .inl (fun _ => 0))), (gyesBy, .inl (cI, 40, .inl (fun _ => 0))), (gnoBy, .inl (cI, 40, .inl (fun _ => 0)))] sz) [(m0, .inr (12, [.ref gweight, .ref gpresent, .ref gspeeches, .int 0, .int 50, .int 0, .int 0, .ref gbuffer, .ref gstate, .ref gplace, .ref gmover, .ref gpart, .ref gamended, .ref gmany, .ref gclause, .ref gfirstMany, .ref gfirstClause, .int 0, .int 0, .int 0, .int (-1), .ref gresolution, .ref gmotion, .ref gaway, .ref gawayMany, .ref gawayOrder, .ref gtable, .ref gcommittee, .int 0, .int 0, .int 0, .int 0, .int 0, .int 0, .int 0, .int 0, .int (-5), .int 0, .int 0, .ref glone, .int 0, .ref gentry, .ref gchange, .int 0, .int (-1), .int 0, .int 0, .ref gyesBy, .ref gnoBy, .int 0, .int 0, .int 0, .int 0, .int 0, .int 0, .ref gdraft, .ref grow, .ref growMany, .ref growFloats, .ref gsaved, .int 1, .int 1, .int (nI 3961)]))]) (va_A [(m0, .inr (12, [.ref gweight, .ref gpresent, .ref gspeeches, .int 0, .int 50, .int 0, .int 0, .ref gbuffer, .ref gstate, .ref gplace, .ref gmover, .ref gpart, .ref gamended, .ref gmany, .ref gclause, .ref gfirstMany, .ref gfirstClause, .int 0, .int 0, .int 0, .int (-1), .ref gresolution, .ref gmotion, .ref gaway, .ref gawayMany, .ref gawayOrder, .ref gtable, .ref gcommittee, .int 0, .int 0, .int 0, .int 0, .int 0, .int 0, .int 0, .int 0, .int (-5), .int 0, .int 0, .ref glone, .int 0, .ref gentry, .ref gchange, .int 0, .int (-1), .int 0, .int 0, .ref gyesBy, .ref gnoBy, .int 0, .int 0, .int 0, .int 0, .int 0, .int 0, .ref gdraft, .ref grow, .ref growMany, .ref growFloats, .ref gsaved, .int 1, .int 0, .int 0])), (gsaved, .inl (cI, 5000, .inl f)), (gweight, .inl (cI, 12, .inl (fun _ => 0))), (gpresent, .inl (cI, 12, .inl (fun _ => 0))), (gspeeches, .inl (cI, 12, .inl (fun _ => 0))), (gbuffer, .inl (cI, 8, .inl (fun _ => 0))), (gstate, .inl (cI, 20, .inl (fun _ => 0))), (gplace, .inl (cI, 20, .inl (fun _ => 0))), (gmover, .inl (cI, 20, .inl (fun _ => 0))), (gpart, .inl (cI, 20, .inl (fun _ => 0))), (gamended, .inl (cI, 20, .inl (fun _ => 0))), (gmany, .inl (cI, 20, .inl (fun _ => 0))), (gclause, .inl (cI, 160, .inl (fun _ => 0))), (gfirstMany, .inl (cI, 20, .inl (fun _ => 0))), (gfirstClause, .inl (cI, 160, .inl (fun _ => 0))), (gresolution, .inl (cI, 40, .inl (fun _ => 0))), (gmotion, .inl (cI, 60, .inl (fun _ => 0))), (gaway, .inl (cI, 1200, .inl (fun _ => 0))), (gawayMany, .inl (cI, 20, .inl (fun _ => 0))), (gawayOrder, .inl (cI, 20, .inl (fun _ => 0))), (glone, .inl (cI, 1040, .inl (fun _ => 0))), (gtable, .inl (cI, 3, .inl (fun _ => 0))), (gcommittee, .inl (cI, 4, .inl (upd (upd (upd (upd (fun _ => 0) 0 (-1)) 1 (-1)) 2 (-1)) 3 (-1)))), (gentry, .inl (cI, 480, .inl (fun _ => 0))), (gchange, .inl (cI, 480, .inl (fun _ => 0))), (gyesBy, .inl (cI, 40, .inl (fun _ => 0))), (gnoBy, .inl (cI, 40, .inl (fun _ => 0)))] sz)) 0 0 (va_A [(m0, .inr (12, [.ref gweight, .ref gpresent, .ref gspeeches, .int 0, .int 50, .int 0, .int 0, .ref gbuffer, .ref gstate, .ref gplace, .ref gmover, .ref gpart, .ref gamended, .ref gmany, .ref gclause, .ref gfirstMany, .ref gfirstClause, .int 0, .int 0, .int 0, .int (-1), .ref gresolution, .ref gmotion, .ref gaway, .ref gawayMany, .ref gawayOrder, .ref gtable, .ref gcommittee, .int 0, .int 0, .int 0, .int 0, .int 0, .int 0, .int 0, .int 0, .int (-5), .int 0, .int 0, .ref glone, .int 0, .ref gentry, .ref gchange, .int 0, .int (-1), .int 0, .int 0, .ref gyesBy, .ref gnoBy, .int 0, .int 0, .int 0, .int 0, .int 0, .int 0, .ref gdraft, .ref grow, .ref growMany, .ref growFloats, .ref gsaved, .int 1, .int 0, .int 0])), (gsaved, .inl (cI, 5000, .inl f)), (gweight, .inl (cI, 12, .inl (fun _ => 0))), (gpresent, .inl (cI, 12, .inl (fun _ => 0))), (gspeeches, .inl (cI, 12, .inl (fun _ => 0))), (gbuffer, .inl (cI, 8, .inl (fun _ => 0))), (gstate, .inl (cI, 20, .inl (fun _ => 0))), (gplace, .inl (cI, 20, .inl (fun _ => 0))), (gmover, .inl (cI, 20, .inl (fun _ => 0))), (gpart, .inl (cI, 20, .inl (fun _ => 0))), (gamended, .inl (cI, 20, .inl (fun _ => 0))), (gmany, .inl (cI, 20, .inl (fun _ => 0))), (gclause, .inl (cI, 160, .inl (fun _ => 0))), (gfirstMany, .inl (cI, 20, .inl (fun _ => 0))), (gfirstClause, .inl (cI, 160, .inl (fun _ => 0))), (gresolution, .inl (cI, 40, .inl (fun _ => 0))), (gmotion, .inl (cI, 60, .inl (fun _ => 0))), (gaway, .inl (cI, 1200, .inl (fun _ => 0))), (gawayMany, .inl (cI, 20, .inl (fun _ => 0))), (gawayOrder, .inl (cI, 20, .inl (fun _ => 0))), (glone, .inl (cI, 1040, .inl (fun _ => 0))), (gtable, .inl (cI, 3, .inl (fun _ => 0))), (gcommittee, .inl (cI, 4, .inl (upd (upd (upd (upd (fun _ => 0) 0 (-1)) 1 (-1)) 2 (-1)) 3 (-1)))), (gentry, .inl (cI, 480, .inl (fun _ => 0))), (gchange, .inl (cI, 480, .inl (fun _ => 0))), (gyesBy, .inl (cI, 40, .inl (fun _ => 0))), (gnoBy, .inl (cI, 40, .inl (fun _ => 0)))] sz) := by
  sorry
theorem dX12_image_0 : decode cX12_image 0 = .ok (.aload_n 0, 1) := by decide +kernel
theorem dX12_image_1 : decode cX12_image 1 = .ok (.iconst 1, 1) := by decide +kernel
theorem dX12_image_2 : decode cX12_image 2 = .ok (.putfield 381, 3) := by decide +kernel
theorem dX12_image_5 : decode cX12_image 5 = .ok (.aload_n 0, 1) := by decide +kernel
theorem dX12_image_6 : decode cX12_image 6 = .ok (.iconst 1, 1) := by decide +kernel
theorem dX12_image_7 : decode cX12_image 7 = .ok (.invokevirtual 384, 3) := by decide +kernel
theorem dX12_image_10 : decode cX12_image 10 = .ok (.aload_n 0, 1) := by decide +kernel
theorem dX12_image_11 : decode cX12_image 11 = .ok (.getfield 138, 3) := by decide +kernel
theorem dX12_image_14 : decode cX12_image 14 = .ok (.ireturn, 1) := by decide +kernel
set_option maxRecDepth 100000 in
theorem q_1506 : (.code yX12_handsAll cX12_handsAll 2 none) ∈ lw_all := List.mem_filter.mpr ⟨List.mem_of_getElem? (i := 1506) (rfl), by decide +kernel⟩
set_option maxRecDepth 100000 in
theorem q_1505 : (.instanceMethod yX12_handsAll) ∈ lw_all := List.mem_filter.mpr ⟨List.mem_of_getElem? (i := 1505) (by decide +kernel), by decide +kernel⟩
set_option maxRecDepth 100000 in
theorem q_1503 : (.methodLink RX12 384 yX12_handsAll) ∈ lw_all := List.mem_filter.mpr ⟨List.mem_of_getElem? (i := 1503) (by decide +kernel), by decide +kernel⟩
set_option maxRecDepth 100000 in
theorem q_59 : (.selects RX12 yX12_handsAll yX12_handsAll) ∈ lw_all := List.mem_filter.mpr ⟨List.mem_of_getElem? (i := 59) (by decide +kernel), by decide +kernel⟩
set_option maxHeartbeats 4000000 in
set_option maxRecDepth 100000 in
theorem c_X12_image (l : Launch) (D : va_G) (cI cQ cM cR : ClassId) (m0 : Nat) (gweight : Nat) (gpresent : Nat) (gspeeches : Nat) (gbuffer : Nat) (gstate : Nat) (gplace : Nat) (gmover : Nat) (gpart : Nat) (gamended : Nat) (gmany : Nat) (gclause : Nat) (gfirstMany : Nat) (gfirstClause : Nat) (gresolution : Nat) (gmotion : Nat) (gaway : Nat) (gawayMany : Nat) (gawayOrder : Nat) (gtable : Nat) (gcommittee : Nat) (glone : Nat) (gentry : Nat) (gchange : Nat) (gyesBy : Nat) (gnoBy : Nat) (gdraft : Nat) (grow : Nat) (growMany : Nat) (growFloats : Nat) (gsaved : Nat) (sz : Nat) : Met l yX12_image (ws_ yX12_image cX12_image 1 (some .int)) ({ frames := 3, cells := 0, slots := 0, locals := 63 }) (PW D cI cQ cM cR [.ref m0] [(m0, .inr (12, [.ref gweight, .ref gpresent, .ref gspeeches, .int 0, .int 50, .int 0, .int 0, .ref gbuffer, .ref gstate, .ref gplace, .ref gmover, .ref gpart, .ref gamended, .ref gmany, .ref gclause, .ref gfirstMany, .ref gfirstClause, .int 0, .int 0, .int 0, .int (-1), .ref gresolution, .ref gmotion, .ref gaway, .ref gawayMany, .ref gawayOrder, .ref gtable, .ref gcommittee, .int 0, .int 0, .int 0, .int 0, .int 0, .int 0, .int 0, .int 0, .int (-5), .int 0, .int 0, .ref glone, .int 0, .ref gentry, .ref gchange, .int 0, .int (-1), .int 0, .int 0, .ref gyesBy, .ref gnoBy, .int 0, .int 0, .int 0, .int 0, .int 0, .int 0, .ref gdraft, .ref grow, .ref growMany, .ref growFloats, .ref gsaved, .int 0, .int 0, .int 0])), (gsaved, .inl (cI, 5000, .inl (fun _ => 0))), (gweight, .inl (cI, 12, .inl (fun _ => 0))), (gpresent, .inl (cI, 12, .inl (fun _ => 0))), (gspeeches, .inl (cI, 12, .inl (fun _ => 0))), (gbuffer, .inl (cI, 8, .inl (fun _ => 0))), (gstate, .inl (cI, 20, .inl (fun _ => 0))), (gplace, .inl (cI, 20, .inl (fun _ => 0))), (gmover, .inl (cI, 20, .inl (fun _ => 0))), (gpart, .inl (cI, 20, .inl (fun _ => 0))), (gamended, .inl (cI, 20, .inl (fun _ => 0))), (gmany, .inl (cI, 20, .inl (fun _ => 0))), (gclause, .inl (cI, 160, .inl (fun _ => 0))), (gfirstMany, .inl (cI, 20, .inl (fun _ => 0))), (gfirstClause, .inl (cI, 160, .inl (fun _ => 0))), (gresolution, .inl (cI, 40, .inl (fun _ => 0))), (gmotion, .inl (cI, 60, .inl (fun _ => 0))), (gaway, .inl (cI, 1200, .inl (fun _ => 0))), (gawayMany, .inl (cI, 20, .inl (fun _ => 0))), (gawayOrder, .inl (cI, 20, .inl (fun _ => 0))), (glone, .inl (cI, 1040, .inl (fun _ => 0))), (gtable, .inl (cI, 3, .inl (fun _ => 0))), (gcommittee, .inl (cI, 4, .inl (upd (upd (upd (upd (fun _ => 0) 0 (-1)) 1 (-1)) 2 (-1)) 3 (-1)))), (gentry, .inl (cI, 480, .inl (fun _ => 0))), (gchange, .inl (cI, 480, .inl (fun _ => 0))), (gyesBy, .inl (cI, 40, .inl (fun _ => 0))), (gnoBy, .inl (cI, 40, .inl (fun _ => 0)))] sz) (va_Qi (fun (r : Int32) (_ : Unit) => r = 0) (fun (_ : Unit) (_ : State) => True) (va_A [(m0, .inr (12, [.ref gweight, .ref gpresent, .ref gspeeches, .int 0, .int 50, .int 0, .int 0, .ref gbuffer, .ref gstate, .ref gplace, .ref gmover, .ref gpart, .ref gamended, .ref gmany, .ref gclause, .ref gfirstMany, .ref gfirstClause, .int 0, .int 0, .int 0, .int (-1), .ref gresolution, .ref gmotion, .ref gaway, .ref gawayMany, .ref gawayOrder, .ref gtable, .ref gcommittee, .int 0, .int 0, .int 0, .int 0, .int 0, .int 0, .int 0, .int 0, .int (-5), .int 0, .int 0, .ref glone, .int 0, .ref gentry, .ref gchange, .int 0, .int (-1), .int 0, .int 0, .ref gyesBy, .ref gnoBy, .int 0, .int 0, .int 0, .int 0, .int 0, .int 0, .ref gdraft, .ref grow, .ref growMany, .ref growFloats, .ref gsaved, .int 0, .int 0, .int 0])), (gsaved, .inl (cI, 5000, .inl (fun _ => 0))), (gweight, .inl (cI, 12, .inl (fun _ => 0))), (gpresent, .inl (cI, 12, .inl (fun _ => 0))), (gspeeches, .inl (cI, 12, .inl (fun _ => 0))), (gbuffer, .inl (cI, 8, .inl (fun _ => 0))), (gstate, .inl (cI, 20, .inl (fun _ => 0))), (gplace, .inl (cI, 20, .inl (fun _ => 0))), (gmover, .inl (cI, 20, .inl (fun _ => 0))), (gpart, .inl (cI, 20, .inl (fun _ => 0))), (gamended, .inl (cI, 20, .inl (fun _ => 0))), (gmany, .inl (cI, 20, .inl (fun _ => 0))), (gclause, .inl (cI, 160, .inl (fun _ => 0))), (gfirstMany, .inl (cI, 20, .inl (fun _ => 0))), (gfirstClause, .inl (cI, 160, .inl (fun _ => 0))), (gresolution, .inl (cI, 40, .inl (fun _ => 0))), (gmotion, .inl (cI, 60, .inl (fun _ => 0))), (gaway, .inl (cI, 1200, .inl (fun _ => 0))), (gawayMany, .inl (cI, 20, .inl (fun _ => 0))), (gawayOrder, .inl (cI, 20, .inl (fun _ => 0))), (glone, .inl (cI, 1040, .inl (fun _ => 0))), (gtable, .inl (cI, 3, .inl (fun _ => 0))), (gcommittee, .inl (cI, 4, .inl (upd (upd (upd (upd (fun _ => 0) 0 (-1)) 1 (-1)) 2 (-1)) 3 (-1)))), (gentry, .inl (cI, 480, .inl (fun _ => 0))), (gchange, .inl (cI, 480, .inl (fun _ => 0))), (gyesBy, .inl (cI, 40, .inl (fun _ => 0))), (gnoBy, .inl (cI, 40, .inl (fun _ => 0)))] sz)) 0 0 (va_A [(m0, .inr (12, [.ref gweight, .ref gpresent, .ref gspeeches, .int 0, .int 50, .int 0, .int 0, .ref gbuffer, .ref gstate, .ref gplace, .ref gmover, .ref gpart, .ref gamended, .ref gmany, .ref gclause, .ref gfirstMany, .ref gfirstClause, .int 0, .int 0, .int 0, .int (-1), .ref gresolution, .ref gmotion, .ref gaway, .ref gawayMany, .ref gawayOrder, .ref gtable, .ref gcommittee, .int 0, .int 0, .int 0, .int 0, .int 0, .int 0, .int 0, .int 0, .int (-5), .int 0, .int 0, .ref glone, .int 0, .ref gentry, .ref gchange, .int 0, .int (-1), .int 0, .int 0, .ref gyesBy, .ref gnoBy, .int 0, .int 0, .int 0, .int 0, .int 0, .int 0, .ref gdraft, .ref grow, .ref growMany, .ref growFloats, .ref gsaved, .int 0, .int 0, .int 0])), (gsaved, .inl (cI, 5000, .inl (fun _ => 0))), (gweight, .inl (cI, 12, .inl (fun _ => 0))), (gpresent, .inl (cI, 12, .inl (fun _ => 0))), (gspeeches, .inl (cI, 12, .inl (fun _ => 0))), (gbuffer, .inl (cI, 8, .inl (fun _ => 0))), (gstate, .inl (cI, 20, .inl (fun _ => 0))), (gplace, .inl (cI, 20, .inl (fun _ => 0))), (gmover, .inl (cI, 20, .inl (fun _ => 0))), (gpart, .inl (cI, 20, .inl (fun _ => 0))), (gamended, .inl (cI, 20, .inl (fun _ => 0))), (gmany, .inl (cI, 20, .inl (fun _ => 0))), (gclause, .inl (cI, 160, .inl (fun _ => 0))), (gfirstMany, .inl (cI, 20, .inl (fun _ => 0))), (gfirstClause, .inl (cI, 160, .inl (fun _ => 0))), (gresolution, .inl (cI, 40, .inl (fun _ => 0))), (gmotion, .inl (cI, 60, .inl (fun _ => 0))), (gaway, .inl (cI, 1200, .inl (fun _ => 0))), (gawayMany, .inl (cI, 20, .inl (fun _ => 0))), (gawayOrder, .inl (cI, 20, .inl (fun _ => 0))), (glone, .inl (cI, 1040, .inl (fun _ => 0))), (gtable, .inl (cI, 3, .inl (fun _ => 0))), (gcommittee, .inl (cI, 4, .inl (upd (upd (upd (upd (fun _ => 0) 0 (-1)) 1 (-1)) 2 (-1)) 3 (-1)))), (gentry, .inl (cI, 480, .inl (fun _ => 0))), (gchange, .inl (cI, 480, .inl (fun _ => 0))), (gyesBy, .inl (cI, 40, .inl (fun _ => 0))), (gnoBy, .inl (cI, 40, .inl (fun _ => 0)))] sz) := by
  sorry
