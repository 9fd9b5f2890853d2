theorem pp_inc {i : Int32} (h0 : 0 ≤ i.toInt) (h1 : i.toInt < 1000) : (i + 1).toInt = i.toInt + 1 := by
  rw [Int32.toInt_add, show (1 : Int32).toInt = 1 from rfl]
  first
    | exact Int.bmod_eq_of_le (by omega) (by omega)
    | (simp only [Int.bmod]; split <;> omega)
def pp_g (p : Int64) : Int64 := (p.toUInt64 >>> ((61 : Int32).toInt64.toUInt64 &&& Int64.toUInt64 63)).toInt64
def wq_X9_init_96_o : List Cond := [.methodLink RX9 3 objectInit, .instanceMethod objectInit, .code objectInit ⟨#[0xb1]⟩ 1 none, .classLink RX9 9 RX6, .fieldLink RX9 11 "SixNet$Row" "items" "[LSixNet$Packet;"]
def wq_X9_init_96 : List Cond := .code yX9_init cX9_init 2 none :: (wq_X9_init_96_o ++ (wsX90 ++ ([])))
set_option maxRecDepth 20000 in
theorem gt_wq_X9_init_96 : GoodIn lw_tbl wq_X9_init_96 := goodIn_ca (goodIn_p (.code yX9_init cX9_init 2 none :: wq_X9_init_96_o) [167, 154] (by decide +kernel) (by decide +kernel)) (goodIn_app gt_wsX90 (fun _ h => absurd h List.not_mem_nil))
set_option maxHeartbeats 4000000 in
set_option maxRecDepth 100000 in
theorem k_X9_init_96 (l : Launch) (dC : Nat → ClassId) (dI : Nat → Nat → Nat) (sz : Nat) (h0 : Nat) : Met l yX9_init wq_X9_init_96 ({ frames := 4, cells := 1, slots := 96, locals := 200 }) (va_Pc [.ref h0, .int 96] (fun U => U.heap.size = sz ∧ va_P (dC, dI) vwCl [(h0, .inr (9, [.null, .int 0]))] U.heap ∧ va_K (dC, dI) vwCl [] U ∧ va_D (fun _ => True) [(h0, .inr (9, [.null, .int 0]))] ∧ va_AO RX6 U)) (va_Qv (fun (_ : Unit) => True) (fun (_ : Unit) (t : State) => ∃ (x0 : Nat), va_P (dC, dI) vwCl [(h0, .inr (9, [.ref x0, .int 0]))] t.heap ∧ va_K (dC, dI) vwCl [] t ∧ va_D (va_A [(h0, .inr (9, [.null, .int 0]))] sz) [(h0, .inr (9, [.ref x0, .int 0]))]) (va_A [(h0, .inr (9, [.null, .int 0]))] sz)) 1 96 (va_A [(h0, .inr (9, [.null, .int 0]))] sz) := by
  refine Met.ofW (cc := cX9_init) (maxL := 2) (ret := none) (by decide +kernel) rfl ?_
  intro p e s m args below meth c s₁ B hml hv
  obtain ⟨rfl, hsz, hP, hK, hD0, hpr0⟩ := hv
  have hx := B.exec
  have hb := B.bytes
  have hr := B.returns
  have hts := atoms_spec (ws := wq_X9_init_96) B.pre
  have hown : s.vm.findClass RX9 = some m.cls := findClass_of_methodNamed B.named
  have hlocks := B.notSynchronized
  have hin : meth.name = "<init>" := (name_of_methodNamed B.named B.method).1
  subst hsz
  have hD := hD0.self (sz := s.heap.size)
  generalize hAe : va_A [(h0, .inr (9, [.null, .int 0]))] s.heap.size = A at hD ⊢
  have hA : ∀ q : Nat, s.heap.size ≤ q → A q := fun q h => by rw [← hAe]; exact Or.inr h
  have hS : va_S A s.heap s.heap [] := va_S.rf
  have hP : va_P (dC, dI) vwCl [(h0, .inr (9, [.null, .int 0]))] s.heap := hP
  have hl := lv_entry ([.ref h0, .int 96]) (n := 2) (Nat.le_of_ble_eq_true rfl)
  rw [lg_entry_eq]
  generalize (lg_sl ([.ref h0, .int 96]) ++ List.replicate (2 - (lg_sl ([.ref h0, .int 96])).length) Slot.unset).toArray = ls at hl ⊢
  have hl : lv_has ls 2 [(0, .ref h0), (1, .int 96)] := hl
  refine lv_aload_n hx hb dX9_init_0 rfl (lv_at hl 0 rfl) ?_
  refine W.objInit hx hb hown (hts (.methodLink RX9 3 objectInit) (List.mem_cons_of_mem _ (List.mem_append_left _ (List.mem_of_getElem? (i := 0) rfl)))) (hts (.instanceMethod objectInit) (List.mem_cons_of_mem _ (List.mem_append_left _ (List.mem_of_getElem? (i := 1) rfl)))) (hts (.code objectInit ⟨#[0xb1]⟩ 1 none) (List.mem_cons_of_mem _ (List.mem_append_left _ (List.mem_of_getElem? (i := 2) rfl)))) rfl (by rw [hml]; exact hl.1) rfl dX9_init_1 (Nat.le_of_ble_eq_true rfl) (Nat.le_of_ble_eq_true rfl) ?_
  refine W.eq (g2 := F0 m 4 ls []) rfl ?_
  refine lv_aload_n hx hb dX9_init_4 rfl (lv_at hl 0 rfl) ?_
  refine lv_iload_n hx hb dX9_init_5 rfl (lv_at hl 1 rfl) ?_
  refine lv_if_le (tgt := 13) hx hb dX9_init_6 (by decide +kernel) (fun c_1 => ?_) (fun c_1 => ?_)
  · exact absurd c_1 (by decide +kernel)
  · refine lv_iload_n hx hb dX9_init_9 rfl (lv_at hl 1 rfl) ?_
    refine lv_goto (tgt := 14) hx hb dX9_init_10 (by decide +kernel) ?_
    have hr_4c : 0 + 1 ≤ 1 := by decide +kernel
    have hr_4s : 0 + 96 ≤ 96 := by decide +kernel
    refine va_newq (D := (dC, dI)) (C := RX6) (N' := 96) hx hb hown (hts (.classLink RX9 9 RX6) (List.mem_cons_of_mem _ (List.mem_append_left _ (List.mem_of_getElem? (i := 3) rfl)))) hpr0 hK hP hD hS hA (by decide +kernel) (by decide +kernel) (by decide +kernel) hr_4c hr_4s dX9_init_14 (fun q_2 cA_3 H hK hP hD hS => ?_)
    have hP : va_P (dC, dI) vwCl [(h0, .inr (9, [.null, .int 0])), (q_2, .inl (cA_3, 96, .inr (.inr (.inr (.inr (fun _ => none))))))] H := hP
    have hD : va_D A [(h0, .inr (9, [.null, .int 0])), (q_2, .inl (cA_3, 96, .inr (.inr (.inr (.inr (fun _ => none))))))] := hD
    have hK : va_K (dC, dI) vwCl [(cA_3, .object RX6)] s := hK
    refine W.widen (k := 1) (n := 96) (by decide +kernel) (by decide +kernel) ?_
    refine va_putF (D := (dC, dI)) (ci := 9) (v := .ref q_2) (ty := .array (.object "SixNet$Packet")) (C := RX9) (T := TX9) (N := 2) hx hb hts (fun w h => List.mem_cons_of_mem _ (List.mem_append_right _ (List.mem_append_left _ h))) tyX9 tyX9_ok nmX9 hown hK hP hD hS 0 rfl rfl 0 (by decide +kernel) (hts (.fieldLink RX9 11 "SixNet$Row" "items" "[LSixNet$Packet;") (List.mem_cons_of_mem _ (List.mem_append_left _ (List.mem_of_getElem? (i := 4) rfl)))) (fun _ h9 => h9) rfl hin rfl (by decide +kernel) rfl rfl (Nat.le_of_ble_eq_true rfl) dX9_init_17 (fun H locs hP hD hS => ?_)
    have hP : va_P (dC, dI) vwCl [(h0, .inr (9, [.ref q_2, .int 0])), (q_2, .inl (cA_3, 96, .inr (.inr (.inr (.inr (fun _ => none))))))] H := hP
    have hD : va_D A [(h0, .inr (9, [.ref q_2, .int 0])), (q_2, .inl (cA_3, 96, .inr (.inr (.inr (.inr (fun _ => none))))))] := hD
    have hP9 := hP.sub (ws' := [(h0, .inr (9, [.ref q_2, .int 0]))]) [0] rfl
    have hD9 := hD.sub (ws' := [(h0, .inr (9, [.ref q_2, .int 0]))]) [0] (by decide +kernel) rfl
    have hK9 := hK.sub (tys' := []) [] rfl
    exact W.vret hx hb hr (fun t ht hW => ⟨⟨(), rfl, trivial, q_2, by rw [ht]; exact hP9, va_K.moved hW.alike hK9, hD9⟩, hS.F ht⟩) hS.2.2 dX9_init_20
def wq_X9_init_48_o : List Cond := [.methodLink RX9 3 objectInit, .instanceMethod objectInit, .code objectInit ⟨#[0xb1]⟩ 1 none, .classLink RX9 9 RX6, .fieldLink RX9 11 "SixNet$Row" "items" "[LSixNet$Packet;"]
def wq_X9_init_48 : List Cond := .code yX9_init cX9_init 2 none :: (wq_X9_init_48_o ++ (wsX90 ++ ([])))
set_option maxRecDepth 20000 in
theorem gt_wq_X9_init_48 : GoodIn lw_tbl wq_X9_init_48 := goodIn_ca (goodIn_p (.code yX9_init cX9_init 2 none :: wq_X9_init_48_o) [167, 154] (by decide +kernel) (by decide +kernel)) (goodIn_app gt_wsX90 (fun _ h => absurd h List.not_mem_nil))
set_option maxHeartbeats 4000000 in
set_option maxRecDepth 100000 in
theorem k_X9_init_48 (l : Launch) (dC : Nat → ClassId) (dI : Nat → Nat → Nat) (sz : Nat) (h0 : Nat) : Met l yX9_init wq_X9_init_48 ({ frames := 4, cells := 1, slots := 48, locals := 200 }) (va_Pc [.ref h0, .int 48] (fun U => U.heap.size = sz ∧ va_P (dC, dI) vwCl [(h0, .inr (9, [.null, .int 0]))] U.heap ∧ va_K (dC, dI) vwCl [] U ∧ va_D (fun _ => True) [(h0, .inr (9, [.null, .int 0]))] ∧ va_AO RX6 U)) (va_Qv (fun (_ : Unit) => True) (fun (_ : Unit) (t : State) => ∃ (x0 : Nat), va_P (dC, dI) vwCl [(h0, .inr (9, [.ref x0, .int 0]))] t.heap ∧ va_K (dC, dI) vwCl [] t ∧ va_D (va_A [(h0, .inr (9, [.null, .int 0]))] sz) [(h0, .inr (9, [.ref x0, .int 0]))]) (va_A [(h0, .inr (9, [.null, .int 0]))] sz)) 1 48 (va_A [(h0, .inr (9, [.null, .int 0]))] sz) := by
  refine Met.ofW (cc := cX9_init) (maxL := 2) (ret := none) (by decide +kernel) rfl ?_
  intro p e s m args below meth c s₁ B hml hv
  obtain ⟨rfl, hsz, hP, hK, hD0, hpr0⟩ := hv
  have hx := B.exec
  have hb := B.bytes
  have hr := B.returns
  have hts := atoms_spec (ws := wq_X9_init_48) B.pre
  have hown : s.vm.findClass RX9 = some m.cls := findClass_of_methodNamed B.named
  have hlocks := B.notSynchronized
  have hin : meth.name = "<init>" := (name_of_methodNamed B.named B.method).1
  subst hsz
  have hD := hD0.self (sz := s.heap.size)
  generalize hAe : va_A [(h0, .inr (9, [.null, .int 0]))] s.heap.size = A at hD ⊢
  have hA : ∀ q : Nat, s.heap.size ≤ q → A q := fun q h => by rw [← hAe]; exact Or.inr h
  have hS : va_S A s.heap s.heap [] := va_S.rf
  have hP : va_P (dC, dI) vwCl [(h0, .inr (9, [.null, .int 0]))] s.heap := hP
  have hl := lv_entry ([.ref h0, .int 48]) (n := 2) (Nat.le_of_ble_eq_true rfl)
  rw [lg_entry_eq]
  generalize (lg_sl ([.ref h0, .int 48]) ++ List.replicate (2 - (lg_sl ([.ref h0, .int 48])).length) Slot.unset).toArray = ls at hl ⊢
  have hl : lv_has ls 2 [(0, .ref h0), (1, .int 48)] := hl
  refine lv_aload_n hx hb dX9_init_0 rfl (lv_at hl 0 rfl) ?_
  refine W.objInit hx hb hown (hts (.methodLink RX9 3 objectInit) (List.mem_cons_of_mem _ (List.mem_append_left _ (List.mem_of_getElem? (i := 0) rfl)))) (hts (.instanceMethod objectInit) (List.mem_cons_of_mem _ (List.mem_append_left _ (List.mem_of_getElem? (i := 1) rfl)))) (hts (.code objectInit ⟨#[0xb1]⟩ 1 none) (List.mem_cons_of_mem _ (List.mem_append_left _ (List.mem_of_getElem? (i := 2) rfl)))) rfl (by rw [hml]; exact hl.1) rfl dX9_init_1 (Nat.le_of_ble_eq_true rfl) (Nat.le_of_ble_eq_true rfl) ?_
  refine W.eq (g2 := F0 m 4 ls []) rfl ?_
  refine lv_aload_n hx hb dX9_init_4 rfl (lv_at hl 0 rfl) ?_
  refine lv_iload_n hx hb dX9_init_5 rfl (lv_at hl 1 rfl) ?_
  refine lv_if_le (tgt := 13) hx hb dX9_init_6 (by decide +kernel) (fun c_1 => ?_) (fun c_1 => ?_)
  · exact absurd c_1 (by decide +kernel)
  · refine lv_iload_n hx hb dX9_init_9 rfl (lv_at hl 1 rfl) ?_
    refine lv_goto (tgt := 14) hx hb dX9_init_10 (by decide +kernel) ?_
    have hr_4c : 0 + 1 ≤ 1 := by decide +kernel
    have hr_4s : 0 + 48 ≤ 48 := by decide +kernel
    refine va_newq (D := (dC, dI)) (C := RX6) (N' := 48) hx hb hown (hts (.classLink RX9 9 RX6) (List.mem_cons_of_mem _ (List.mem_append_left _ (List.mem_of_getElem? (i := 3) rfl)))) hpr0 hK hP hD hS hA (by decide +kernel) (by decide +kernel) (by decide +kernel) hr_4c hr_4s dX9_init_14 (fun q_2 cA_3 H hK hP hD hS => ?_)
    have hP : va_P (dC, dI) vwCl [(h0, .inr (9, [.null, .int 0])), (q_2, .inl (cA_3, 48, .inr (.inr (.inr (.inr (fun _ => none))))))] H := hP
    have hD : va_D A [(h0, .inr (9, [.null, .int 0])), (q_2, .inl (cA_3, 48, .inr (.inr (.inr (.inr (fun _ => none))))))] := hD
    have hK : va_K (dC, dI) vwCl [(cA_3, .object RX6)] s := hK
    refine W.widen (k := 1) (n := 48) (by decide +kernel) (by decide +kernel) ?_
    refine va_putF (D := (dC, dI)) (ci := 9) (v := .ref q_2) (ty := .array (.object "SixNet$Packet")) (C := RX9) (T := TX9) (N := 2) hx hb hts (fun w h => List.mem_cons_of_mem _ (List.mem_append_right _ (List.mem_append_left _ h))) tyX9 tyX9_ok nmX9 hown hK hP hD hS 0 rfl rfl 0 (by decide +kernel) (hts (.fieldLink RX9 11 "SixNet$Row" "items" "[LSixNet$Packet;") (List.mem_cons_of_mem _ (List.mem_append_left _ (List.mem_of_getElem? (i := 4) rfl)))) (fun _ h9 => h9) rfl hin rfl (by decide +kernel) rfl rfl (Nat.le_of_ble_eq_true rfl) dX9_init_17 (fun H locs hP hD hS => ?_)
    have hP : va_P (dC, dI) vwCl [(h0, .inr (9, [.ref q_2, .int 0])), (q_2, .inl (cA_3, 48, .inr (.inr (.inr (.inr (fun _ => none))))))] H := hP
    have hD : va_D A [(h0, .inr (9, [.ref q_2, .int 0])), (q_2, .inl (cA_3, 48, .inr (.inr (.inr (.inr (fun _ => none))))))] := hD
    have hP9 := hP.sub (ws' := [(h0, .inr (9, [.ref q_2, .int 0]))]) [0] rfl
    have hD9 := hD.sub (ws' := [(h0, .inr (9, [.ref q_2, .int 0]))]) [0] (by decide +kernel) rfl
    have hK9 := hK.sub (tys' := []) [] rfl
    exact W.vret hx hb hr (fun t ht hW => ⟨⟨(), rfl, trivial, q_2, by rw [ht]; exact hP9, va_K.moved hW.alike hK9, hD9⟩, hS.F ht⟩) hS.2.2 dX9_init_20
def wq_X6_init_1514_o : List Cond := [.methodLink RX6 3 objectInit, .instanceMethod objectInit, .code objectInit ⟨#[0xb1]⟩ 1 none, .arrayClass .byte, .fieldLink RX6 9 "SixNet$Packet" "data" "[B"]
def wq_X6_init_1514 : List Cond := .code yX6_init cX6_init 2 none :: (wq_X6_init_1514_o ++ (wsX60 ++ ([])))
set_option maxRecDepth 20000 in
theorem gt_wq_X6_init_1514 : GoodIn lw_tbl wq_X6_init_1514 := goodIn_ca (goodIn_p (.code yX6_init cX6_init 2 none :: wq_X6_init_1514_o) [183, 154] (by decide +kernel) (by decide +kernel)) (goodIn_app gt_wsX60 (fun _ h => absurd h List.not_mem_nil))
set_option maxHeartbeats 4000000 in
set_option maxRecDepth 100000 in
theorem k_X6_init_1514 (l : Launch) (dC : Nat → ClassId) (dI : Nat → Nat → Nat) (sz : Nat) (h0 : Nat) : Met l yX6_init wq_X6_init_1514 ({ frames := 4, cells := 1, slots := 1514, locals := 200 }) (va_Pc [.ref h0, .int 1514] (fun U => U.heap.size = sz ∧ va_P (dC, dI) vwCl [(h0, .inr (6, [.null, .int 0, .int 0, .int 0, .int 0, .null]))] U.heap ∧ va_K (dC, dI) vwCl [] U ∧ va_D (fun _ => True) [(h0, .inr (6, [.null, .int 0, .int 0, .int 0, .int 0, .null]))])) (va_Qv (fun (_ : Unit) => True) (fun (_ : Unit) (t : State) => ∃ (x0 : Nat), va_P (dC, dI) vwCl [(h0, .inr (6, [.ref x0, .int 0, .int 0, .int 0, .int 0, .null]))] t.heap ∧ va_K (dC, dI) vwCl [] t ∧ va_D (va_A [(h0, .inr (6, [.null, .int 0, .int 0, .int 0, .int 0, .null]))] sz) [(h0, .inr (6, [.ref x0, .int 0, .int 0, .int 0, .int 0, .null]))]) (va_A [(h0, .inr (6, [.null, .int 0, .int 0, .int 0, .int 0, .null]))] sz)) 1 1514 (va_A [(h0, .inr (6, [.null, .int 0, .int 0, .int 0, .int 0, .null]))] sz) := by
  refine Met.ofW (cc := cX6_init) (maxL := 2) (ret := none) (by decide +kernel) rfl ?_
  intro p e s m args below meth c s₁ B hml hv
  obtain ⟨rfl, hsz, hP, hK, hD0⟩ := hv
  have hx := B.exec
  have hb := B.bytes
  have hr := B.returns
  have hts := atoms_spec (ws := wq_X6_init_1514) B.pre
  have hown : s.vm.findClass RX6 = some m.cls := findClass_of_methodNamed B.named
  have hlocks := B.notSynchronized
  have hin : meth.name = "<init>" := (name_of_methodNamed B.named B.method).1
  subst hsz
  have hD := hD0.self (sz := s.heap.size)
  generalize hAe : va_A [(h0, .inr (6, [.null, .int 0, .int 0, .int 0, .int 0, .null]))] s.heap.size = A at hD ⊢
  have hA : ∀ q : Nat, s.heap.size ≤ q → A q := fun q h => by rw [← hAe]; exact Or.inr h
  have hS : va_S A s.heap s.heap [] := va_S.rf
  have hP : va_P (dC, dI) vwCl [(h0, .inr (6, [.null, .int 0, .int 0, .int 0, .int 0, .null]))] s.heap := hP
  have hl := lv_entry ([.ref h0, .int 1514]) (n := 2) (Nat.le_of_ble_eq_true rfl)
  rw [lg_entry_eq]
  generalize (lg_sl ([.ref h0, .int 1514]) ++ List.replicate (2 - (lg_sl ([.ref h0, .int 1514])).length) Slot.unset).toArray = ls at hl ⊢
  have hl : lv_has ls 2 [(0, .ref h0), (1, .int 1514)] := hl
  refine lv_aload_n hx hb dX6_init_0 rfl (lv_at hl 0 rfl) ?_
  refine W.objInit hx hb hown (hts (.methodLink RX6 3 objectInit) (List.mem_cons_of_mem _ (List.mem_append_left _ (List.mem_of_getElem? (i := 0) rfl)))) (hts (.instanceMethod objectInit) (List.mem_cons_of_mem _ (List.mem_append_left _ (List.mem_of_getElem? (i := 1) rfl)))) (hts (.code objectInit ⟨#[0xb1]⟩ 1 none) (List.mem_cons_of_mem _ (List.mem_append_left _ (List.mem_of_getElem? (i := 2) rfl)))) rfl (by rw [hml]; exact hl.1) rfl dX6_init_1 (Nat.le_of_ble_eq_true rfl) (Nat.le_of_ble_eq_true rfl) ?_
  refine W.eq (g2 := F0 m 4 ls []) rfl ?_
  refine lv_aload_n hx hb dX6_init_4 rfl (lv_at hl 0 rfl) ?_
  refine lv_iload_n hx hb dX6_init_5 rfl (lv_at hl 1 rfl) ?_
  refine lv_if_le (tgt := 13) hx hb dX6_init_6 (by decide +kernel) (fun c_1 => ?_) (fun c_1 => ?_)
  · exact absurd c_1 (by decide +kernel)
  · refine lv_iload_n hx hb dX6_init_9 rfl (lv_at hl 1 rfl) ?_
    refine lv_goto (tgt := 14) hx hb dX6_init_10 (by decide +kernel) ?_
    have hr_4c : 0 + 1 ≤ 1 := by decide +kernel
    have hr_4s : 0 + 1514 ≤ 1514 := by decide +kernel
    refine va_newa (atype := .byte) (D := (dC, dI)) (ty := .byte) (N' := 1514) (a0 := (1514, .inl (fun _ => 0))) hx hb (hts (.arrayClass .byte) (List.mem_cons_of_mem _ (List.mem_append_left _ (List.mem_of_getElem? (i := 3) rfl)))) rfl hK hP hD hS hA (fun _ => rfl) (by decide +kernel) (by decide +kernel) (by decide +kernel) hr_4c hr_4s dX6_init_14 (fun q_2 cA_3 H hK hP hD hS => ?_)
    have hP : va_P (dC, dI) vwCl [(h0, .inr (6, [.null, .int 0, .int 0, .int 0, .int 0, .null])), (q_2, .inl (cA_3, 1514, .inl (fun _ => 0)))] H := hP
    have hD : va_D A [(h0, .inr (6, [.null, .int 0, .int 0, .int 0, .int 0, .null])), (q_2, .inl (cA_3, 1514, .inl (fun _ => 0)))] := hD
    have hK : va_K (dC, dI) vwCl [(cA_3, .byte)] s := hK
    refine W.widen (k := 1) (n := 1514) (by decide +kernel) (by decide +kernel) ?_
    refine va_putF (D := (dC, dI)) (ci := 6) (v := .ref q_2) (ty := .array .byte) (C := RX6) (T := TX6) (N := 6) hx hb hts (fun w h => List.mem_cons_of_mem _ (List.mem_append_right _ (List.mem_append_left _ h))) tyX6 tyX6_ok nmX6 hown hK hP hD hS 0 rfl rfl 0 (by decide +kernel) (hts (.fieldLink RX6 9 "SixNet$Packet" "data" "[B") (List.mem_cons_of_mem _ (List.mem_append_left _ (List.mem_of_getElem? (i := 4) rfl)))) (fun _ h9 => h9) rfl hin rfl (by decide +kernel) rfl rfl (Nat.le_of_ble_eq_true rfl) dX6_init_16 (fun H locs hP hD hS => ?_)
    have hP : va_P (dC, dI) vwCl [(h0, .inr (6, [.ref q_2, .int 0, .int 0, .int 0, .int 0, .null])), (q_2, .inl (cA_3, 1514, .inl (fun _ => 0)))] H := hP
    have hD : va_D A [(h0, .inr (6, [.ref q_2, .int 0, .int 0, .int 0, .int 0, .null])), (q_2, .inl (cA_3, 1514, .inl (fun _ => 0)))] := hD
    have hP9 := hP.sub (ws' := [(h0, .inr (6, [.ref q_2, .int 0, .int 0, .int 0, .int 0, .null]))]) [0] rfl
    have hD9 := hD.sub (ws' := [(h0, .inr (6, [.ref q_2, .int 0, .int 0, .int 0, .int 0, .null]))]) [0] (by decide +kernel) rfl
    have hK9 := hK.sub (tys' := []) [] rfl
    exact W.vret hx hb hr (fun t ht hW => ⟨⟨(), rfl, trivial, q_2, by rw [ht]; exact hP9, va_K.moved hW.alike hK9, hD9⟩, hS.F ht⟩) hS.2.2 dX6_init_19
def wq_X6_init_3048_o : List Cond := [.methodLink RX6 3 objectInit, .instanceMethod objectInit, .code objectInit ⟨#[0xb1]⟩ 1 none, .arrayClass .byte, .fieldLink RX6 9 "SixNet$Packet" "data" "[B"]
def wq_X6_init_3048 : List Cond := .code yX6_init cX6_init 2 none :: (wq_X6_init_3048_o ++ (wsX60 ++ ([])))
set_option maxRecDepth 20000 in
theorem gt_wq_X6_init_3048 : GoodIn lw_tbl wq_X6_init_3048 := goodIn_ca (goodIn_p (.code yX6_init cX6_init 2 none :: wq_X6_init_3048_o) [183, 154] (by decide +kernel) (by decide +kernel)) (goodIn_app gt_wsX60 (fun _ h => absurd h List.not_mem_nil))
set_option maxHeartbeats 4000000 in
set_option maxRecDepth 100000 in
theorem k_X6_init_3048 (l : Launch) (dC : Nat → ClassId) (dI : Nat → Nat → Nat) (sz : Nat) (h0 : Nat) : Met l yX6_init wq_X6_init_3048 ({ frames := 4, cells := 1, slots := 3048, locals := 200 }) (va_Pc [.ref h0, .int 3048] (fun U => U.heap.size = sz ∧ va_P (dC, dI) vwCl [(h0, .inr (6, [.null, .int 0, .int 0, .int 0, .int 0, .null]))] U.heap ∧ va_K (dC, dI) vwCl [] U ∧ va_D (fun _ => True) [(h0, .inr (6, [.null, .int 0, .int 0, .int 0, .int 0, .null]))])) (va_Qv (fun (_ : Unit) => True) (fun (_ : Unit) (t : State) => ∃ (x0 : Nat), va_P (dC, dI) vwCl [(h0, .inr (6, [.ref x0, .int 0, .int 0, .int 0, .int 0, .null]))] t.heap ∧ va_K (dC, dI) vwCl [] t ∧ va_D (va_A [(h0, .inr (6, [.null, .int 0, .int 0, .int 0, .int 0, .null]))] sz) [(h0, .inr (6, [.ref x0, .int 0, .int 0, .int 0, .int 0, .null]))]) (va_A [(h0, .inr (6, [.null, .int 0, .int 0, .int 0, .int 0, .null]))] sz)) 1 3048 (va_A [(h0, .inr (6, [.null, .int 0, .int 0, .int 0, .int 0, .null]))] sz) := by
  refine Met.ofW (cc := cX6_init) (maxL := 2) (ret := none) (by decide +kernel) rfl ?_
  intro p e s m args below meth c s₁ B hml hv
  obtain ⟨rfl, hsz, hP, hK, hD0⟩ := hv
  have hx := B.exec
  have hb := B.bytes
  have hr := B.returns
  have hts := atoms_spec (ws := wq_X6_init_3048) B.pre
  have hown : s.vm.findClass RX6 = some m.cls := findClass_of_methodNamed B.named
  have hlocks := B.notSynchronized
  have hin : meth.name = "<init>" := (name_of_methodNamed B.named B.method).1
  subst hsz
  have hD := hD0.self (sz := s.heap.size)
  generalize hAe : va_A [(h0, .inr (6, [.null, .int 0, .int 0, .int 0, .int 0, .null]))] s.heap.size = A at hD ⊢
  have hA : ∀ q : Nat, s.heap.size ≤ q → A q := fun q h => by rw [← hAe]; exact Or.inr h
  have hS : va_S A s.heap s.heap [] := va_S.rf
  have hP : va_P (dC, dI) vwCl [(h0, .inr (6, [.null, .int 0, .int 0, .int 0, .int 0, .null]))] s.heap := hP
  have hl := lv_entry ([.ref h0, .int 3048]) (n := 2) (Nat.le_of_ble_eq_true rfl)
  rw [lg_entry_eq]
  generalize (lg_sl ([.ref h0, .int 3048]) ++ List.replicate (2 - (lg_sl ([.ref h0, .int 3048])).length) Slot.unset).toArray = ls at hl ⊢
  have hl : lv_has ls 2 [(0, .ref h0), (1, .int 3048)] := hl
  refine lv_aload_n hx hb dX6_init_0 rfl (lv_at hl 0 rfl) ?_
  refine W.objInit hx hb hown (hts (.methodLink RX6 3 objectInit) (List.mem_cons_of_mem _ (List.mem_append_left _ (List.mem_of_getElem? (i := 0) rfl)))) (hts (.instanceMethod objectInit) (List.mem_cons_of_mem _ (List.mem_append_left _ (List.mem_of_getElem? (i := 1) rfl)))) (hts (.code objectInit ⟨#[0xb1]⟩ 1 none) (List.mem_cons_of_mem _ (List.mem_append_left _ (List.mem_of_getElem? (i := 2) rfl)))) rfl (by rw [hml]; exact hl.1) rfl dX6_init_1 (Nat.le_of_ble_eq_true rfl) (Nat.le_of_ble_eq_true rfl) ?_
  refine W.eq (g2 := F0 m 4 ls []) rfl ?_
  refine lv_aload_n hx hb dX6_init_4 rfl (lv_at hl 0 rfl) ?_
  refine lv_iload_n hx hb dX6_init_5 rfl (lv_at hl 1 rfl) ?_
  refine lv_if_le (tgt := 13) hx hb dX6_init_6 (by decide +kernel) (fun c_1 => ?_) (fun c_1 => ?_)
  · exact absurd c_1 (by decide +kernel)
  · refine lv_iload_n hx hb dX6_init_9 rfl (lv_at hl 1 rfl) ?_
    refine lv_goto (tgt := 14) hx hb dX6_init_10 (by decide +kernel) ?_
    have hr_4c : 0 + 1 ≤ 1 := by decide +kernel
    have hr_4s : 0 + 3048 ≤ 3048 := by decide +kernel
    refine va_newa (atype := .byte) (D := (dC, dI)) (ty := .byte) (N' := 3048) (a0 := (3048, .inl (fun _ => 0))) hx hb (hts (.arrayClass .byte) (List.mem_cons_of_mem _ (List.mem_append_left _ (List.mem_of_getElem? (i := 3) rfl)))) rfl hK hP hD hS hA (fun _ => rfl) (by decide +kernel) (by decide +kernel) (by decide +kernel) hr_4c hr_4s dX6_init_14 (fun q_2 cA_3 H hK hP hD hS => ?_)
    have hP : va_P (dC, dI) vwCl [(h0, .inr (6, [.null, .int 0, .int 0, .int 0, .int 0, .null])), (q_2, .inl (cA_3, 3048, .inl (fun _ => 0)))] H := hP
    have hD : va_D A [(h0, .inr (6, [.null, .int 0, .int 0, .int 0, .int 0, .null])), (q_2, .inl (cA_3, 3048, .inl (fun _ => 0)))] := hD
    have hK : va_K (dC, dI) vwCl [(cA_3, .byte)] s := hK
    refine W.widen (k := 1) (n := 3048) (by decide +kernel) (by decide +kernel) ?_
    refine va_putF (D := (dC, dI)) (ci := 6) (v := .ref q_2) (ty := .array .byte) (C := RX6) (T := TX6) (N := 6) hx hb hts (fun w h => List.mem_cons_of_mem _ (List.mem_append_right _ (List.mem_append_left _ h))) tyX6 tyX6_ok nmX6 hown hK hP hD hS 0 rfl rfl 0 (by decide +kernel) (hts (.fieldLink RX6 9 "SixNet$Packet" "data" "[B") (List.mem_cons_of_mem _ (List.mem_append_left _ (List.mem_of_getElem? (i := 4) rfl)))) (fun _ h9 => h9) rfl hin rfl (by decide +kernel) rfl rfl (Nat.le_of_ble_eq_true rfl) dX6_init_16 (fun H locs hP hD hS => ?_)
    have hP : va_P (dC, dI) vwCl [(h0, .inr (6, [.ref q_2, .int 0, .int 0, .int 0, .int 0, .null])), (q_2, .inl (cA_3, 3048, .inl (fun _ => 0)))] H := hP
    have hD : va_D A [(h0, .inr (6, [.ref q_2, .int 0, .int 0, .int 0, .int 0, .null])), (q_2, .inl (cA_3, 3048, .inl (fun _ => 0)))] := hD
    have hP9 := hP.sub (ws' := [(h0, .inr (6, [.ref q_2, .int 0, .int 0, .int 0, .int 0, .null]))]) [0] rfl
    have hD9 := hD.sub (ws' := [(h0, .inr (6, [.ref q_2, .int 0, .int 0, .int 0, .int 0, .null]))]) [0] (by decide +kernel) rfl
    have hK9 := hK.sub (tys' := []) [] rfl
    exact W.vret hx hb hr (fun t ht hW => ⟨⟨(), rfl, trivial, q_2, by rw [ht]; exact hP9, va_K.moved hW.alike hK9, hD9⟩, hS.F ht⟩) hS.2.2 dX6_init_19
def wq_X2_init_o : List Cond := [.methodLink RX2 1 objectInit, .instanceMethod objectInit, .code objectInit ⟨#[0xb1]⟩ 1 none]
def wq_X2_init : List Cond := .code yX2_init cX2_init 1 none :: (wq_X2_init_o ++ ([]))
set_option maxRecDepth 20000 in
theorem gt_wq_X2_init : GoodIn lw_tbl wq_X2_init := goodIn_ca (goodIn_p (.code yX2_init cX2_init 1 none :: wq_X2_init_o) [219, 154] (by decide +kernel) (by decide +kernel)) (fun _ h => absurd h List.not_mem_nil)
set_option maxHeartbeats 4000000 in
set_option maxRecDepth 100000 in
theorem k_X2_init (l : Launch) (dC : Nat → ClassId) (dI : Nat → Nat → Nat) (sz : Nat) (h0 : Nat) : Met l yX2_init wq_X2_init ({ frames := 4, cells := 0, slots := 0, locals := 200 }) (va_Pc [.ref h0] (fun U => U.heap.size = sz ∧ va_P (dC, dI) vwCl [(h0, .inr (2, [.null, .long 0, .long 0]))] U.heap ∧ va_K (dC, dI) vwCl [] U ∧ va_D (fun _ => True) [(h0, .inr (2, [.null, .long 0, .long 0]))])) (va_Qv (fun (_ : Unit) => True) (fun (_ : Unit) (t : State) => va_P (dC, dI) vwCl [(h0, .inr (2, [.null, .long 0, .long 0]))] t.heap ∧ va_K (dC, dI) vwCl [] t ∧ va_D (va_A [(h0, .inr (2, [.null, .long 0, .long 0]))] sz) [(h0, .inr (2, [.null, .long 0, .long 0]))]) (va_A [(h0, .inr (2, [.null, .long 0, .long 0]))] sz)) 0 0 (va_A [(h0, .inr (2, [.null, .long 0, .long 0]))] sz) := by
  refine Met.ofW (cc := cX2_init) (maxL := 1) (ret := none) (by decide +kernel) rfl ?_
  intro p e s m args below meth c s₁ B hml hv
  obtain ⟨rfl, hsz, hP, hK, hD0⟩ := hv
  have hx := B.exec
  have hb := B.bytes
  have hr := B.returns
  have hts := atoms_spec (ws := wq_X2_init) B.pre
  have hown : s.vm.findClass RX2 = some m.cls := findClass_of_methodNamed B.named
  have hlocks := B.notSynchronized
  have hin : meth.name = "<init>" := (name_of_methodNamed B.named B.method).1
  subst hsz
  have hD := hD0.self (sz := s.heap.size)
  generalize hAe : va_A [(h0, .inr (2, [.null, .long 0, .long 0]))] s.heap.size = A at hD ⊢
  have hA : ∀ q : Nat, s.heap.size ≤ q → A q := fun q h => by rw [← hAe]; exact Or.inr h
  have hS : va_S A s.heap s.heap [] := va_S.rf
  have hP : va_P (dC, dI) vwCl [(h0, .inr (2, [.null, .long 0, .long 0]))] s.heap := hP
  have hl := lv_entry ([.ref h0]) (n := 1) (Nat.le_of_ble_eq_true rfl)
  rw [lg_entry_eq]
  generalize (lg_sl ([.ref h0]) ++ List.replicate (1 - (lg_sl ([.ref h0])).length) Slot.unset).toArray = ls at hl ⊢
  have hl : lv_has ls 1 [(0, .ref h0)] := hl
  refine lv_aload_n hx hb dX2_init_0 rfl (lv_at hl 0 rfl) ?_
  refine W.objInit hx hb hown (hts (.methodLink RX2 1 objectInit) (List.mem_cons_of_mem _ (List.mem_append_left _ (List.mem_of_getElem? (i := 0) rfl)))) (hts (.instanceMethod objectInit) (List.mem_cons_of_mem _ (List.mem_append_left _ (List.mem_of_getElem? (i := 1) rfl)))) (hts (.code objectInit ⟨#[0xb1]⟩ 1 none) (List.mem_cons_of_mem _ (List.mem_append_left _ (List.mem_of_getElem? (i := 2) rfl)))) rfl (by rw [hml]; exact hl.1) rfl dX2_init_1 (Nat.le_of_ble_eq_true rfl) (Nat.le_of_ble_eq_true rfl) ?_
  refine W.eq (g2 := F0 m 4 ls []) rfl ?_
  have hP9 := hP.sub (ws' := [(h0, .inr (2, [.null, .long 0, .long 0]))]) [0] rfl
  have hD9 := hD.sub (ws' := [(h0, .inr (2, [.null, .long 0, .long 0]))]) [0] (by decide +kernel) rfl
  have hK9 := hK.sub (tys' := []) [] rfl
  exact W.vret hx hb hr (fun t ht hW => ⟨⟨(), rfl, trivial, by rw [ht]; exact hP9, va_K.moved hW.alike hK9, hD9⟩, hS.F ht⟩) hS.2.2 dX2_init_4
def wq_X4_init_o : List Cond := [.methodLink RX4 3 objectInit, .instanceMethod objectInit, .code objectInit ⟨#[0xb1]⟩ 1 none, .arrayClass .long, .fieldLink RX4 9 "SixNet$Mtus" "highs" "[J", .fieldLink RX4 15 "SixNet$Mtus" "lows" "[J", .arrayClass .int, .fieldLink RX4 18 "SixNet$Mtus" "values" "[I", .fieldLink RX4 22 "SixNet$Mtus" "untils" "[I"]
def wq_X4_init : List Cond := .code yX4_init cX4_init 1 none :: (wq_X4_init_o ++ (wsX40 ++ ([])))
set_option maxRecDepth 20000 in
theorem gt_wq_X4_init : GoodIn lw_tbl wq_X4_init := goodIn_ca (goodIn_p (.code yX4_init cX4_init 1 none :: wq_X4_init_o) [314, 154] (by decide +kernel) (by decide +kernel)) (goodIn_app gt_wsX40 (fun _ h => absurd h List.not_mem_nil))
set_option maxHeartbeats 4000000 in
set_option maxRecDepth 100000 in
theorem k_X4_init (l : Launch) (dC : Nat → ClassId) (dI : Nat → Nat → Nat) (sz : Nat) (h0 : Nat) : Met l yX4_init wq_X4_init ({ frames := 4, cells := 4, slots := 48, locals := 200 }) (va_Pc [.ref h0] (fun U => U.heap.size = sz ∧ va_P (dC, dI) vwCl [(h0, .inr (4, [.null, .null, .null, .null, .int 0]))] U.heap ∧ va_K (dC, dI) vwCl [] U ∧ va_D (fun _ => True) [(h0, .inr (4, [.null, .null, .null, .null, .int 0]))])) (va_Qv (fun (_ : Unit) => True) (fun (_ : Unit) (t : State) => ∃ (x0 : Nat), ∃ (x1 : Nat), ∃ (x2 : Nat), ∃ (x3 : Nat), va_P (dC, dI) vwCl [(h0, .inr (4, [.ref x0, .ref x1, .ref x2, .ref x3, .int 0]))] t.heap ∧ va_K (dC, dI) vwCl [] t ∧ va_D (va_A [(h0, .inr (4, [.null, .null, .null, .null, .int 0]))] sz) [(h0, .inr (4, [.ref x0, .ref x1, .ref x2, .ref x3, .int 0]))]) (va_A [(h0, .inr (4, [.null, .null, .null, .null, .int 0]))] sz)) 4 48 (va_A [(h0, .inr (4, [.null, .null, .null, .null, .int 0]))] sz) := by
  refine Met.ofW (cc := cX4_init) (maxL := 1) (ret := none) (by decide +kernel) rfl ?_
  intro p e s m args below meth c s₁ B hml hv
  obtain ⟨rfl, hsz, hP, hK, hD0⟩ := hv
  have hx := B.exec
  have hb := B.bytes
  have hr := B.returns
  have hts := atoms_spec (ws := wq_X4_init) B.pre
  have hown : s.vm.findClass RX4 = some m.cls := findClass_of_methodNamed B.named
  have hlocks := B.notSynchronized
  have hin : meth.name = "<init>" := (name_of_methodNamed B.named B.method).1
  subst hsz
  have hD := hD0.self (sz := s.heap.size)
  generalize hAe : va_A [(h0, .inr (4, [.null, .null, .null, .null, .int 0]))] s.heap.size = A at hD ⊢
  have hA : ∀ q : Nat, s.heap.size ≤ q → A q := fun q h => by rw [← hAe]; exact Or.inr h
  have hS : va_S A s.heap s.heap [] := va_S.rf
  have hP : va_P (dC, dI) vwCl [(h0, .inr (4, [.null, .null, .null, .null, .int 0]))] s.heap := hP
  have hl := lv_entry ([.ref h0]) (n := 1) (Nat.le_of_ble_eq_true rfl)
  rw [lg_entry_eq]
  generalize (lg_sl ([.ref h0]) ++ List.replicate (1 - (lg_sl ([.ref h0])).length) Slot.unset).toArray = ls at hl ⊢
  have hl : lv_has ls 1 [(0, .ref h0)] := hl
  refine lv_aload_n hx hb dX4_init_0 rfl (lv_at hl 0 rfl) ?_
  refine W.objInit hx hb hown (hts (.methodLink RX4 3 objectInit) (List.mem_cons_of_mem _ (List.mem_append_left _ (List.mem_of_getElem? (i := 0) rfl)))) (hts (.instanceMethod objectInit) (List.mem_cons_of_mem _ (List.mem_append_left _ (List.mem_of_getElem? (i := 1) rfl)))) (hts (.code objectInit ⟨#[0xb1]⟩ 1 none) (List.mem_cons_of_mem _ (List.mem_append_left _ (List.mem_of_getElem? (i := 2) rfl)))) rfl (by rw [hml]; exact hl.1) rfl dX4_init_1 (Nat.le_of_ble_eq_true rfl) (Nat.le_of_ble_eq_true rfl) ?_
  refine W.eq (g2 := F0 m 4 ls []) rfl ?_
  refine lv_aload_n hx hb dX4_init_4 rfl (lv_at hl 0 rfl) ?_
  refine lv_bipush (v := 12) hx hb dX4_init_5 (by decide +kernel) ?_
  have hr_3c : 0 + 1 ≤ 4 := by decide +kernel
  have hr_3s : 0 + 12 ≤ 48 := by decide +kernel
  refine va_newa (atype := .long) (D := (dC, dI)) (ty := .long) (N' := 12) (a0 := (12, .inr (.inl (fun _ => 0)))) hx hb (hts (.arrayClass .long) (List.mem_cons_of_mem _ (List.mem_append_left _ (List.mem_of_getElem? (i := 3) rfl)))) rfl hK hP hD hS hA (fun _ => rfl) (by decide +kernel) (by decide +kernel) (by decide +kernel) hr_3c hr_3s dX4_init_7 (fun q_1 cA_2 H hK hP hD hS => ?_)
  have hP : va_P (dC, dI) vwCl [(h0, .inr (4, [.null, .null, .null, .null, .int 0])), (q_1, .inl (cA_2, 12, .inr (.inl (fun _ => 0))))] H := hP
  have hD : va_D A [(h0, .inr (4, [.null, .null, .null, .null, .int 0])), (q_1, .inl (cA_2, 12, .inr (.inl (fun _ => 0))))] := hD
  have hK : va_K (dC, dI) vwCl [(cA_2, .long)] s := hK
  refine W.widen (k := 1) (n := 12) (by decide +kernel) (by decide +kernel) ?_
  refine va_putF (D := (dC, dI)) (ci := 4) (v := .ref q_1) (ty := .array .long) (C := RX4) (T := TX4) (N := 5) hx hb hts (fun w h => List.mem_cons_of_mem _ (List.mem_append_right _ (List.mem_append_left _ h))) tyX4 tyX4_ok nmX4 hown hK hP hD hS 0 rfl rfl 0 (by decide +kernel) (hts (.fieldLink RX4 9 "SixNet$Mtus" "highs" "[J") (List.mem_cons_of_mem _ (List.mem_append_left _ (List.mem_of_getElem? (i := 4) rfl)))) (fun _ h9 => h9) rfl hin rfl (by decide +kernel) rfl rfl (Nat.le_of_ble_eq_true rfl) dX4_init_9 (fun H locs hP hD hS => ?_)
  have hP : va_P (dC, dI) vwCl [(h0, .inr (4, [.ref q_1, .null, .null, .null, .int 0])), (q_1, .inl (cA_2, 12, .inr (.inl (fun _ => 0))))] H := hP
  have hD : va_D A [(h0, .inr (4, [.ref q_1, .null, .null, .null, .int 0])), (q_1, .inl (cA_2, 12, .inr (.inl (fun _ => 0))))] := hD
  refine lv_aload_n hx hb dX4_init_12 rfl (lv_at hl 0 rfl) ?_
  refine lv_bipush (v := 12) hx hb dX4_init_13 (by decide +kernel) ?_
  have hr_6c : 1 + 1 ≤ 4 := by decide +kernel
  have hr_6s : 12 + 12 ≤ 48 := by decide +kernel
  refine va_newa (atype := .long) (D := (dC, dI)) (ty := .long) (N' := 12) (a0 := (12, .inr (.inl (fun _ => 0)))) hx hb (hts (.arrayClass .long) (List.mem_cons_of_mem _ (List.mem_append_left _ (List.mem_of_getElem? (i := 3) rfl)))) rfl hK hP hD hS hA (fun _ => rfl) (by decide +kernel) (by decide +kernel) (by decide +kernel) hr_6c hr_6s dX4_init_15 (fun q_4 cA_5 H hK hP hD hS => ?_)
  have hP : va_P (dC, dI) vwCl [(h0, .inr (4, [.ref q_1, .null, .null, .null, .int 0])), (q_1, .inl (cA_2, 12, .inr (.inl (fun _ => 0)))), (q_4, .inl (cA_5, 12, .inr (.inl (fun _ => 0))))] H := hP
  have hD : va_D A [(h0, .inr (4, [.ref q_1, .null, .null, .null, .int 0])), (q_1, .inl (cA_2, 12, .inr (.inl (fun _ => 0)))), (q_4, .inl (cA_5, 12, .inr (.inl (fun _ => 0))))] := hD
  have hK : va_K (dC, dI) vwCl [(cA_2, .long), (cA_5, .long)] s := hK
  refine W.widen (k := 2) (n := 24) (by decide +kernel) (by decide +kernel) ?_
  refine va_putF (D := (dC, dI)) (ci := 4) (v := .ref q_4) (ty := .array .long) (C := RX4) (T := TX4) (N := 5) hx hb hts (fun w h => List.mem_cons_of_mem _ (List.mem_append_right _ (List.mem_append_left _ h))) tyX4 tyX4_ok nmX4 hown hK hP hD hS 0 rfl rfl 1 (by decide +kernel) (hts (.fieldLink RX4 15 "SixNet$Mtus" "lows" "[J") (List.mem_cons_of_mem _ (List.mem_append_left _ (List.mem_of_getElem? (i := 5) rfl)))) (fun _ h9 => h9) rfl hin rfl (by decide +kernel) rfl rfl (Nat.le_of_ble_eq_true rfl) dX4_init_17 (fun H locs hP hD hS => ?_)
  have hP : va_P (dC, dI) vwCl [(h0, .inr (4, [.ref q_1, .ref q_4, .null, .null, .int 0])), (q_1, .inl (cA_2, 12, .inr (.inl (fun _ => 0)))), (q_4, .inl (cA_5, 12, .inr (.inl (fun _ => 0))))] H := hP
  have hD : va_D A [(h0, .inr (4, [.ref q_1, .ref q_4, .null, .null, .int 0])), (q_1, .inl (cA_2, 12, .inr (.inl (fun _ => 0)))), (q_4, .inl (cA_5, 12, .inr (.inl (fun _ => 0))))] := hD
  refine lv_aload_n hx hb dX4_init_20 rfl (lv_at hl 0 rfl) ?_
  refine lv_bipush (v := 12) hx hb dX4_init_21 (by decide +kernel) ?_
  have hr_9c : 2 + 1 ≤ 4 := by decide +kernel
  have hr_9s : 24 + 12 ≤ 48 := by decide +kernel
  refine va_newa (atype := .int) (D := (dC, dI)) (ty := .int) (N' := 12) (a0 := (12, .inl (fun _ => 0))) hx hb (hts (.arrayClass .int) (List.mem_cons_of_mem _ (List.mem_append_left _ (List.mem_of_getElem? (i := 6) rfl)))) rfl hK hP hD hS hA (fun _ => rfl) (by decide +kernel) (by decide +kernel) (by decide +kernel) hr_9c hr_9s dX4_init_23 (fun q_7 cA_8 H hK hP hD hS => ?_)
  have hP : va_P (dC, dI) vwCl [(h0, .inr (4, [.ref q_1, .ref q_4, .null, .null, .int 0])), (q_1, .inl (cA_2, 12, .inr (.inl (fun _ => 0)))), (q_4, .inl (cA_5, 12, .inr (.inl (fun _ => 0)))), (q_7, .inl (cA_8, 12, .inl (fun _ => 0)))] H := hP
  have hD : va_D A [(h0, .inr (4, [.ref q_1, .ref q_4, .null, .null, .int 0])), (q_1, .inl (cA_2, 12, .inr (.inl (fun _ => 0)))), (q_4, .inl (cA_5, 12, .inr (.inl (fun _ => 0)))), (q_7, .inl (cA_8, 12, .inl (fun _ => 0)))] := hD
  have hK : va_K (dC, dI) vwCl [(cA_2, .long), (cA_5, .long), (cA_8, .int)] s := hK
  refine W.widen (k := 3) (n := 36) (by decide +kernel) (by decide +kernel) ?_
  refine va_putF (D := (dC, dI)) (ci := 4) (v := .ref q_7) (ty := .array .int) (C := RX4) (T := TX4) (N := 5) hx hb hts (fun w h => List.mem_cons_of_mem _ (List.mem_append_right _ (List.mem_append_left _ h))) tyX4 tyX4_ok nmX4 hown hK hP hD hS 0 rfl rfl 2 (by decide +kernel) (hts (.fieldLink RX4 18 "SixNet$Mtus" "values" "[I") (List.mem_cons_of_mem _ (List.mem_append_left _ (List.mem_of_getElem? (i := 7) rfl)))) (fun _ h9 => h9) rfl hin rfl (by decide +kernel) rfl rfl (Nat.le_of_ble_eq_true rfl) dX4_init_25 (fun H locs hP hD hS => ?_)
  have hP : va_P (dC, dI) vwCl [(h0, .inr (4, [.ref q_1, .ref q_4, .ref q_7, .null, .int 0])), (q_1, .inl (cA_2, 12, .inr (.inl (fun _ => 0)))), (q_4, .inl (cA_5, 12, .inr (.inl (fun _ => 0)))), (q_7, .inl (cA_8, 12, .inl (fun _ => 0)))] H := hP
  have hD : va_D A [(h0, .inr (4, [.ref q_1, .ref q_4, .ref q_7, .null, .int 0])), (q_1, .inl (cA_2, 12, .inr (.inl (fun _ => 0)))), (q_4, .inl (cA_5, 12, .inr (.inl (fun _ => 0)))), (q_7, .inl (cA_8, 12, .inl (fun _ => 0)))] := hD
  refine lv_aload_n hx hb dX4_init_28 rfl (lv_at hl 0 rfl) ?_
  refine lv_bipush (v := 12) hx hb dX4_init_29 (by decide +kernel) ?_
  have hr_12c : 3 + 1 ≤ 4 := by decide +kernel
  have hr_12s : 36 + 12 ≤ 48 := by decide +kernel
  refine va_newa (atype := .int) (D := (dC, dI)) (ty := .int) (N' := 12) (a0 := (12, .inl (fun _ => 0))) hx hb (hts (.arrayClass .int) (List.mem_cons_of_mem _ (List.mem_append_left _ (List.mem_of_getElem? (i := 6) rfl)))) rfl hK hP hD hS hA (fun _ => rfl) (by decide +kernel) (by decide +kernel) (by decide +kernel) hr_12c hr_12s dX4_init_31 (fun q_10 cA_11 H hK hP hD hS => ?_)
  have hP : va_P (dC, dI) vwCl [(h0, .inr (4, [.ref q_1, .ref q_4, .ref q_7, .null, .int 0])), (q_1, .inl (cA_2, 12, .inr (.inl (fun _ => 0)))), (q_4, .inl (cA_5, 12, .inr (.inl (fun _ => 0)))), (q_7, .inl (cA_8, 12, .inl (fun _ => 0))), (q_10, .inl (cA_11, 12, .inl (fun _ => 0)))] H := hP
  have hD : va_D A [(h0, .inr (4, [.ref q_1, .ref q_4, .ref q_7, .null, .int 0])), (q_1, .inl (cA_2, 12, .inr (.inl (fun _ => 0)))), (q_4, .inl (cA_5, 12, .inr (.inl (fun _ => 0)))), (q_7, .inl (cA_8, 12, .inl (fun _ => 0))), (q_10, .inl (cA_11, 12, .inl (fun _ => 0)))] := hD
  have hK : va_K (dC, dI) vwCl [(cA_2, .long), (cA_5, .long), (cA_8, .int), (cA_11, .int)] s := hK
  refine W.widen (k := 4) (n := 48) (by decide +kernel) (by decide +kernel) ?_
  refine va_putF (D := (dC, dI)) (ci := 4) (v := .ref q_10) (ty := .array .int) (C := RX4) (T := TX4) (N := 5) hx hb hts (fun w h => List.mem_cons_of_mem _ (List.mem_append_right _ (List.mem_append_left _ h))) tyX4 tyX4_ok nmX4 hown hK hP hD hS 0 rfl rfl 3 (by decide +kernel) (hts (.fieldLink RX4 22 "SixNet$Mtus" "untils" "[I") (List.mem_cons_of_mem _ (List.mem_append_left _ (List.mem_of_getElem? (i := 8) rfl)))) (fun _ h9 => h9) rfl hin rfl (by decide +kernel) rfl rfl (Nat.le_of_ble_eq_true rfl) dX4_init_33 (fun H locs hP hD hS => ?_)
  have hP : va_P (dC, dI) vwCl [(h0, .inr (4, [.ref q_1, .ref q_4, .ref q_7, .ref q_10, .int 0])), (q_1, .inl (cA_2, 12, .inr (.inl (fun _ => 0)))), (q_4, .inl (cA_5, 12, .inr (.inl (fun _ => 0)))), (q_7, .inl (cA_8, 12, .inl (fun _ => 0))), (q_10, .inl (cA_11, 12, .inl (fun _ => 0)))] H := hP
  have hD : va_D A [(h0, .inr (4, [.ref q_1, .ref q_4, .ref q_7, .ref q_10, .int 0])), (q_1, .inl (cA_2, 12, .inr (.inl (fun _ => 0)))), (q_4, .inl (cA_5, 12, .inr (.inl (fun _ => 0)))), (q_7, .inl (cA_8, 12, .inl (fun _ => 0))), (q_10, .inl (cA_11, 12, .inl (fun _ => 0)))] := hD
  have hP9 := hP.sub (ws' := [(h0, .inr (4, [.ref q_1, .ref q_4, .ref q_7, .ref q_10, .int 0]))]) [0] rfl
  have hD9 := hD.sub (ws' := [(h0, .inr (4, [.ref q_1, .ref q_4, .ref q_7, .ref q_10, .int 0]))]) [0] (by decide +kernel) rfl
  have hK9 := hK.sub (tys' := []) [] rfl
  exact W.vret hx hb hr (fun t ht hW => ⟨⟨(), rfl, trivial, q_1, q_4, q_7, q_10, by rw [ht]; exact hP9, va_K.moved hW.alike hK9, hD9⟩, hS.F ht⟩) hS.2.2 dX4_init_36
def wq_X5_init_0_o : List Cond := [.methodLink RX5 3 objectInit, .instanceMethod objectInit, .code objectInit ⟨#[0xb1]⟩ 1 none, .classLink RX5 9 RX7, .fieldLink RX5 11 "SixNet$Node" "parts" "[LSixNet$Parts;", .classLink RX5 17 RX4, .instantiable RX4 5, .initialized RX4, .instanceMethod yX4_init, .fieldLink RX5 20 "SixNet$Node" "mtus" "LSixNet$Mtus;", .arrayClass .int, .fieldLink RX5 24 "SixNet$Node" "tallies" "[I", .arrayClass .long, .fieldLink RX5 28 "SixNet$Node" "routerLows" "[J", .fieldLink RX5 32 "SixNet$Node" "routerUntils" "[I", .fieldLink RX5 35 "SixNet$Node" "number" "I", .fieldLink RX5 39 "SixNet$Node" "router" "Z", .classLink RX5 43 RX1, .fieldLink RX5 45 "SixNet$Node" "faces" "[LSixNet$Face;", .classLink RX5 49 RX8, .fieldLink RX5 51 "SixNet$Node" "routes" "[LSixNet$Route;"]
def wq_X5_init_0 : List Cond := .code yX5_init cX5_init 3 none :: (wq_X5_init_0_o ++ (wsX50 ++ (wsX40 ++ (wq_X4_init ++ ([])))))
set_option maxRecDepth 20000 in
theorem gt_wq_X5_init_0 : GoodIn lw_tbl wq_X5_init_0 := goodIn_ca (goodIn_p (.code yX5_init cX5_init 3 none :: wq_X5_init_0_o) [306, 154] (by decide +kernel) (by decide +kernel)) (goodIn_app gt_wsX50 (goodIn_app gt_wsX40 (goodIn_app gt_wq_X4_init (fun _ h => absurd h List.not_mem_nil))))
set_option maxRecDepth 20000 in
theorem wq_X5_init_0_g2 : GoodIn wq_X5_init_0 wq_X4_init := goodIn_sub (fun w h => List.mem_cons_of_mem _ (List.mem_append_right _ (List.mem_append_right _ (List.mem_append_right _ (List.mem_append_left _ h))))) (by decide +kernel)
set_option maxHeartbeats 4000000 in
set_option maxRecDepth 100000 in
theorem k_X5_init_0 (l : Launch) (dC : Nat → ClassId) (dI : Nat → Nat → Nat) (sz : Nat) (h0 : Nat) (k : Int32) : Met l yX5_init wq_X5_init_0 ({ frames := 6, cells := 11, slots := 72, locals := 400 }) (va_Pc [.ref h0, .int k, .int 0] (fun U => U.heap.size = sz ∧ va_P (dC, dI) vwCl [(h0, .inr (5, [.int 0, .int 0, .null, .null, .null, .null, .null, .null, .null, .int 0, .int 0, .int 0, .int 0, .int 0, .int 0]))] U.heap ∧ va_K (dC, dI) vwCl [] U ∧ va_D (fun _ => True) [(h0, .inr (5, [.int 0, .int 0, .null, .null, .null, .null, .null, .null, .null, .int 0, .int 0, .int 0, .int 0, .int 0, .int 0]))] ∧ va_AO RX7 U ∧ va_AO RX1 U ∧ va_AO RX8 U ∧ va_Nw (.methodLinkNest RX5 19 yX4_init "SixNet") U)) (va_Qv (fun (_ : Unit) => True) (fun (_ : Unit) (t : State) => ∃ (x2 : Nat), ∃ (x3 : Nat), ∃ (x4 : Nat), ∃ (x5 : Nat), ∃ (x6 : Nat), ∃ (x7 : Nat), ∃ (x8 : Nat), va_P (dC, dI) vwCl [(h0, .inr (5, [.int k, .int 0, .ref x2, .ref x3, .ref x4, .ref x5, .ref x6, .ref x7, .ref x8, .int 0, .int 0, .int 0, .int 0, .int 0, .int 0]))] t.heap ∧ va_K (dC, dI) vwCl [] t ∧ va_D (va_A [(h0, .inr (5, [.int 0, .int 0, .null, .null, .null, .null, .null, .null, .null, .int 0, .int 0, .int 0, .int 0, .int 0, .int 0]))] sz) [(h0, .inr (5, [.int k, .int 0, .ref x2, .ref x3, .ref x4, .ref x5, .ref x6, .ref x7, .ref x8, .int 0, .int 0, .int 0, .int 0, .int 0, .int 0]))]) (va_A [(h0, .inr (5, [.int 0, .int 0, .null, .null, .null, .null, .null, .null, .null, .int 0, .int 0, .int 0, .int 0, .int 0, .int 0]))] sz)) 11 72 (va_A [(h0, .inr (5, [.int 0, .int 0, .null, .null, .null, .null, .null, .null, .null, .int 0, .int 0, .int 0, .int 0, .int 0, .int 0]))] sz) := by
  refine Met.ofW (cc := cX5_init) (maxL := 3) (ret := none) (by decide +kernel) rfl ?_
  intro p e s m args below meth c s₁ B hml hv
  obtain ⟨rfl, hsz, hP, hK, hD0, hpr0, hpr1, hpr2, hpr3⟩ := hv
  have hx := B.exec
  have hb := B.bytes
  have hr := B.returns
  have hts := atoms_spec (ws := wq_X5_init_0) B.pre
  have hown : s.vm.findClass RX5 = some m.cls := findClass_of_methodNamed B.named
  have hlocks := B.notSynchronized
  have hin : meth.name = "<init>" := (name_of_methodNamed B.named B.method).1
  subst hsz
  have hD := hD0.self (sz := s.heap.size)
  generalize hAe : va_A [(h0, .inr (5, [.int 0, .int 0, .null, .null, .null, .null, .null, .null, .null, .int 0, .int 0, .int 0, .int 0, .int 0, .int 0]))] s.heap.size = A at hD ⊢
  have hA : ∀ q : Nat, s.heap.size ≤ q → A q := fun q h => by rw [← hAe]; exact Or.inr h
  have hS : va_S A s.heap s.heap [] := va_S.rf
  have hP : va_P (dC, dI) vwCl [(h0, .inr (5, [.int 0, .int 0, .null, .null, .null, .null, .null, .null, .null, .int 0, .int 0, .int 0, .int 0, .int 0, .int 0]))] s.heap := hP
  have hl := lv_entry ([.ref h0, .int k, .int 0]) (n := 3) (Nat.le_of_ble_eq_true rfl)
  rw [lg_entry_eq]
  generalize (lg_sl ([.ref h0, .int k, .int 0]) ++ List.replicate (3 - (lg_sl ([.ref h0, .int k, .int 0])).length) Slot.unset).toArray = ls at hl ⊢
  have hl : lv_has ls 3 [(0, .ref h0), (1, .int k), (2, .int 0)] := hl
  refine lv_aload_n hx hb dX5_init_0 rfl (lv_at hl 0 rfl) ?_
  refine W.objInit hx hb hown (hts (.methodLink RX5 3 objectInit) (List.mem_cons_of_mem _ (List.mem_append_left _ (List.mem_of_getElem? (i := 0) rfl)))) (hts (.instanceMethod objectInit) (List.mem_cons_of_mem _ (List.mem_append_left _ (List.mem_of_getElem? (i := 1) rfl)))) (hts (.code objectInit ⟨#[0xb1]⟩ 1 none) (List.mem_cons_of_mem _ (List.mem_append_left _ (List.mem_of_getElem? (i := 2) rfl)))) rfl (by rw [hml]; exact hl.1) rfl dX5_init_1 (Nat.le_of_ble_eq_true rfl) (Nat.le_of_ble_eq_true rfl) ?_
  refine W.eq (g2 := F0 m 4 ls []) rfl ?_
  refine lv_aload_n hx hb dX5_init_4 rfl (lv_at hl 0 rfl) ?_
  refine lv_iconst (v := 4) hx hb dX5_init_5 (by decide +kernel) ?_
  have hr_3c : 0 + 1 ≤ 11 := by decide +kernel
  have hr_3s : 0 + 4 ≤ 72 := by decide +kernel
  refine va_newq (D := (dC, dI)) (C := RX7) (N' := 4) hx hb hown (hts (.classLink RX5 9 RX7) (List.mem_cons_of_mem _ (List.mem_append_left _ (List.mem_of_getElem? (i := 3) rfl)))) hpr0 hK hP hD hS hA (by decide +kernel) (by decide +kernel) (by decide +kernel) hr_3c hr_3s dX5_init_6 (fun q_1 cA_2 H hK hP hD hS => ?_)
  have hP : va_P (dC, dI) vwCl [(h0, .inr (5, [.int 0, .int 0, .null, .null, .null, .null, .null, .null, .null, .int 0, .int 0, .int 0, .int 0, .int 0, .int 0])), (q_1, .inl (cA_2, 4, .inr (.inr (.inr (.inr (fun _ => none))))))] H := hP
  have hD : va_D A [(h0, .inr (5, [.int 0, .int 0, .null, .null, .null, .null, .null, .null, .null, .int 0, .int 0, .int 0, .int 0, .int 0, .int 0])), (q_1, .inl (cA_2, 4, .inr (.inr (.inr (.inr (fun _ => none))))))] := hD
  have hK : va_K (dC, dI) vwCl [(cA_2, .object RX7)] s := hK
  refine W.widen (k := 1) (n := 4) (by decide +kernel) (by decide +kernel) ?_
  refine va_putF (D := (dC, dI)) (ci := 5) (v := .ref q_1) (ty := .array (.object "SixNet$Parts")) (C := RX5) (T := TX5) (N := 15) hx hb hts (fun w h => List.mem_cons_of_mem _ (List.mem_append_right _ (List.mem_append_left _ h))) tyX5 tyX5_ok nmX5 hown hK hP hD hS 0 rfl rfl 4 (by decide +kernel) (hts (.fieldLink RX5 11 "SixNet$Node" "parts" "[LSixNet$Parts;") (List.mem_cons_of_mem _ (List.mem_append_left _ (List.mem_of_getElem? (i := 4) rfl)))) (fun _ h9 => h9) rfl hin rfl (by decide +kernel) rfl rfl (Nat.le_of_ble_eq_true rfl) dX5_init_9 (fun H locs hP hD hS => ?_)
  have hP : va_P (dC, dI) vwCl [(h0, .inr (5, [.int 0, .int 0, .null, .null, .ref q_1, .null, .null, .null, .null, .int 0, .int 0, .int 0, .int 0, .int 0, .int 0])), (q_1, .inl (cA_2, 4, .inr (.inr (.inr (.inr (fun _ => none))))))] H := hP
  have hD : va_D A [(h0, .inr (5, [.int 0, .int 0, .null, .null, .ref q_1, .null, .null, .null, .null, .int 0, .int 0, .int 0, .int 0, .int 0, .int 0])), (q_1, .inl (cA_2, 4, .inr (.inr (.inr (.inr (fun _ => none))))))] := hD
  refine lv_aload_n hx hb dX5_init_12 rfl (lv_at hl 0 rfl) ?_
  have hr_5c : 1 + 1 ≤ 11 := by decide +kernel
  have hr_5s : 4 + 5 ≤ 72 := by decide +kernel
  refine va_new (ci := 4) (fs := [.null, .null, .null, .null, .int 0]) (C := RX4) (T := TX4) (N := 5) hx hb hts (fun w h => List.mem_cons_of_mem _ (List.mem_append_right _ (List.mem_append_right _ (List.mem_append_left _ h)))) tyX4 tyX4_ok hown (hts (.classLink RX5 17 RX4) (List.mem_cons_of_mem _ (List.mem_append_left _ (List.mem_of_getElem? (i := 5) rfl)))) (hts (.instantiable RX4 5) (List.mem_cons_of_mem _ (List.mem_append_left _ (List.mem_of_getElem? (i := 6) rfl)))) (hts (.initialized RX4) (List.mem_cons_of_mem _ (List.mem_append_left _ (List.mem_of_getElem? (i := 7) rfl)))) hK hP hD hS hA rfl (fun j hj => by rcases (show j = 0 ∨ j = 1 ∨ j = 2 ∨ j = 3 ∨ j = 4 by omega) with rfl | rfl | rfl | rfl | rfl <;> rfl) hr_5c hr_5s dX5_init_13 (fun q_4 H hP hD hS => ?_)
  have hP : va_P (dC, dI) vwCl [(h0, .inr (5, [.int 0, .int 0, .null, .null, .ref q_1, .null, .null, .null, .null, .int 0, .int 0, .int 0, .int 0, .int 0, .int 0])), (q_1, .inl (cA_2, 4, .inr (.inr (.inr (.inr (fun _ => none)))))), (q_4, .inr (4, [.null, .null, .null, .null, .int 0]))] H := hP
  have hD : va_D A [(h0, .inr (5, [.int 0, .int 0, .null, .null, .ref q_1, .null, .null, .null, .null, .int 0, .int 0, .int 0, .int 0, .int 0, .int 0])), (q_1, .inl (cA_2, 4, .inr (.inr (.inr (.inr (fun _ => none)))))), (q_4, .inr (4, [.null, .null, .null, .null, .int 0]))] := hD
  refine W.widen (k := 2) (n := 9) (by decide +kernel) (by decide +kernel) ?_
  refine lv_dup hx hb dX5_init_16 rfl ?_
  have hPc := hP.sub (ws' := [(q_4, .inr (4, [.null, .null, .null, .null, .int 0]))]) [2] rfl
  have hDc := hD.sub (ws' := [(q_4, .inr (4, [.null, .null, .null, .null, .int 0]))]) [2] (by decide +kernel) rfl
  have hKc := hK.sub (tys' := []) [] rfl
  have hFc := va_free (wc := [(q_4, .inr (4, [.null, .null, .null, .null, .int 0]))]) hD hS hA [2] rfl
  have hr_7c : 2 + 4 ≤ 11 := by decide +kernel
  have hr_7s : 9 + 48 ≤ 72 := by decide +kernel
  refine va_callv (va_runIN (As := []) (rest := [.ref q_4, .ref h0]) ⟨hx, hb, hml, hown, hts⟩ (k_X4_init l dC dI H.size q_4) ⟨va_cnB 0 hts wq_X5_init_0_g2 rfl rfl rfl hpr3 (hts (.initialized RX4) (List.mem_cons_of_mem _ (List.mem_append_left _ (List.mem_of_getElem? (i := 7) rfl)))) (by decide +kernel) ⟨Nat.le_of_ble_eq_true rfl, Nat.le_of_ble_eq_true rfl⟩, rfl, (hts (.instanceMethod yX4_init) (List.mem_cons_of_mem _ (List.mem_append_left _ (List.mem_of_getElem? (i := 8) rfl))))⟩ ⟨fun a U g mk q => by obtain ⟨q0, q1, qP, qK, qD⟩ := q; exact ⟨q0, q1, qP, va_K.moved (u := U) (U := U.calling g mk a) (Vm.Alike.refl U.vm) qK, qD⟩, fun U hU hW => ⟨rfl, by rw [hU], by rw [hU]; exact hPc, va_K.moved hW.alike hKc, hDc.weaken (fun _ _ _ _ => trivial)⟩⟩ rfl rfl hl.1 rfl (lv_room (Nat.le_of_ble_eq_true rfl)) dX5_init_17 ⟨hr_7c, hr_7s⟩) hS (fun q _ h => hFc q h) hFc (fun u t H1 locs ht hvm hw hB hz1 hk1 hS => ?_)
  obtain ⟨x_8, x_9, x_10, x_11, hP1, hK1, hD1⟩ := hB
  rw [ht] at hP1
  obtain ⟨hP, hD⟩ := va_join (wr := [(h0, .inr (5, [.int 0, .int 0, .null, .null, .ref q_1, .null, .null, .null, .null, .int 0, .int 0, .int 0, .int 0, .int 0, .int 0])), (q_1, .inl (cA_2, 4, .inr (.inr (.inr (.inr (fun _ => none))))))]) (w1 := [(q_4, .inr (4, [.ref x_8, .ref x_9, .ref x_10, .ref x_11, .int 0]))]) hP hD [2] [0, 1] rfl rfl (by decide +kernel) (by decide +kernel) hk1 hFc hP1 hD1
  generalize H1 = H at hP hS ⊢
  have hP : va_P (dC, dI) vwCl [(h0, .inr (5, [.int 0, .int 0, .null, .null, .ref q_1, .null, .null, .null, .null, .int 0, .int 0, .int 0, .int 0, .int 0, .int 0])), (q_1, .inl (cA_2, 4, .inr (.inr (.inr (.inr (fun _ => none)))))), (q_4, .inr (4, [.ref x_8, .ref x_9, .ref x_10, .ref x_11, .int 0]))] H := hP
  have hD : va_D A [(h0, .inr (5, [.int 0, .int 0, .null, .null, .ref q_1, .null, .null, .null, .null, .int 0, .int 0, .int 0, .int 0, .int 0, .int 0])), (q_1, .inl (cA_2, 4, .inr (.inr (.inr (.inr (fun _ => none)))))), (q_4, .inr (4, [.ref x_8, .ref x_9, .ref x_10, .ref x_11, .int 0]))] := hD
  refine W.widen (k := 6) (n := 57) (by decide +kernel) (by decide +kernel) ?_
  refine va_putF (D := (dC, dI)) (ci := 5) (v := .ref q_4) (ty := .object "SixNet$Mtus") (C := RX5) (T := TX5) (N := 15) hx hb hts (fun w h => List.mem_cons_of_mem _ (List.mem_append_right _ (List.mem_append_left _ h))) tyX5 tyX5_ok nmX5 hown hK hP hD hS 0 rfl rfl 5 (by decide +kernel) (hts (.fieldLink RX5 20 "SixNet$Node" "mtus" "LSixNet$Mtus;") (List.mem_cons_of_mem _ (List.mem_append_left _ (List.mem_of_getElem? (i := 9) rfl)))) (fun _ h9 => h9) rfl hin rfl (by decide +kernel) rfl rfl (Nat.le_of_ble_eq_true rfl) dX5_init_20 (fun H locs hP hD hS => ?_)
  have hP : va_P (dC, dI) vwCl [(h0, .inr (5, [.int 0, .int 0, .null, .null, .ref q_1, .ref q_4, .null, .null, .null, .int 0, .int 0, .int 0, .int 0, .int 0, .int 0])), (q_1, .inl (cA_2, 4, .inr (.inr (.inr (.inr (fun _ => none)))))), (q_4, .inr (4, [.ref x_8, .ref x_9, .ref x_10, .ref x_11, .int 0]))] H := hP
  have hD : va_D A [(h0, .inr (5, [.int 0, .int 0, .null, .null, .ref q_1, .ref q_4, .null, .null, .null, .int 0, .int 0, .int 0, .int 0, .int 0, .int 0])), (q_1, .inl (cA_2, 4, .inr (.inr (.inr (.inr (fun _ => none)))))), (q_4, .inr (4, [.ref x_8, .ref x_9, .ref x_10, .ref x_11, .int 0]))] := hD
  refine lv_aload_n hx hb dX5_init_23 rfl (lv_at hl 0 rfl) ?_
  refine lv_bipush (v := 6) hx hb dX5_init_24 (by decide +kernel) ?_
  have hr_14c : 6 + 1 ≤ 11 := by decide +kernel
  have hr_14s : 57 + 6 ≤ 72 := by decide +kernel
  refine va_newa (atype := .int) (D := (dC, dI)) (ty := .int) (N' := 6) (a0 := (6, .inl (fun _ => 0))) hx hb (hts (.arrayClass .int) (List.mem_cons_of_mem _ (List.mem_append_left _ (List.mem_of_getElem? (i := 10) rfl)))) rfl hK hP hD hS hA (fun _ => rfl) (by decide +kernel) (by decide +kernel) (by decide +kernel) hr_14c hr_14s dX5_init_26 (fun q_12 cA_13 H hK hP hD hS => ?_)
  have hP : va_P (dC, dI) vwCl [(h0, .inr (5, [.int 0, .int 0, .null, .null, .ref q_1, .ref q_4, .null, .null, .null, .int 0, .int 0, .int 0, .int 0, .int 0, .int 0])), (q_1, .inl (cA_2, 4, .inr (.inr (.inr (.inr (fun _ => none)))))), (q_4, .inr (4, [.ref x_8, .ref x_9, .ref x_10, .ref x_11, .int 0])), (q_12, .inl (cA_13, 6, .inl (fun _ => 0)))] H := hP
  have hD : va_D A [(h0, .inr (5, [.int 0, .int 0, .null, .null, .ref q_1, .ref q_4, .null, .null, .null, .int 0, .int 0, .int 0, .int 0, .int 0, .int 0])), (q_1, .inl (cA_2, 4, .inr (.inr (.inr (.inr (fun _ => none)))))), (q_4, .inr (4, [.ref x_8, .ref x_9, .ref x_10, .ref x_11, .int 0])), (q_12, .inl (cA_13, 6, .inl (fun _ => 0)))] := hD
  have hK : va_K (dC, dI) vwCl [(cA_2, .object RX7), (cA_13, .int)] s := hK
  refine W.widen (k := 7) (n := 63) (by decide +kernel) (by decide +kernel) ?_
  refine va_putF (D := (dC, dI)) (ci := 5) (v := .ref q_12) (ty := .array .int) (C := RX5) (T := TX5) (N := 15) hx hb hts (fun w h => List.mem_cons_of_mem _ (List.mem_append_right _ (List.mem_append_left _ h))) tyX5 tyX5_ok nmX5 hown hK hP hD hS 0 rfl rfl 6 (by decide +kernel) (hts (.fieldLink RX5 24 "SixNet$Node" "tallies" "[I") (List.mem_cons_of_mem _ (List.mem_append_left _ (List.mem_of_getElem? (i := 11) rfl)))) (fun _ h9 => h9) rfl hin rfl (by decide +kernel) rfl rfl (Nat.le_of_ble_eq_true rfl) dX5_init_28 (fun H locs hP hD hS => ?_)
  have hP : va_P (dC, dI) vwCl [(h0, .inr (5, [.int 0, .int 0, .null, .null, .ref q_1, .ref q_4, .ref q_12, .null, .null, .int 0, .int 0, .int 0, .int 0, .int 0, .int 0])), (q_1, .inl (cA_2, 4, .inr (.inr (.inr (.inr (fun _ => none)))))), (q_4, .inr (4, [.ref x_8, .ref x_9, .ref x_10, .ref x_11, .int 0])), (q_12, .inl (cA_13, 6, .inl (fun _ => 0)))] H := hP
  have hD : va_D A [(h0, .inr (5, [.int 0, .int 0, .null, .null, .ref q_1, .ref q_4, .ref q_12, .null, .null, .int 0, .int 0, .int 0, .int 0, .int 0, .int 0])), (q_1, .inl (cA_2, 4, .inr (.inr (.inr (.inr (fun _ => none)))))), (q_4, .inr (4, [.ref x_8, .ref x_9, .ref x_10, .ref x_11, .int 0])), (q_12, .inl (cA_13, 6, .inl (fun _ => 0)))] := hD
  refine lv_aload_n hx hb dX5_init_31 rfl (lv_at hl 0 rfl) ?_
  refine lv_iconst (v := 4) hx hb dX5_init_32 (by decide +kernel) ?_
  have hr_17c : 7 + 1 ≤ 11 := by decide +kernel
  have hr_17s : 63 + 4 ≤ 72 := by decide +kernel
  refine va_newa (atype := .long) (D := (dC, dI)) (ty := .long) (N' := 4) (a0 := (4, .inr (.inl (fun _ => 0)))) hx hb (hts (.arrayClass .long) (List.mem_cons_of_mem _ (List.mem_append_left _ (List.mem_of_getElem? (i := 12) rfl)))) rfl hK hP hD hS hA (fun _ => rfl) (by decide +kernel) (by decide +kernel) (by decide +kernel) hr_17c hr_17s dX5_init_33 (fun q_15 cA_16 H hK hP hD hS => ?_)
  have hP : va_P (dC, dI) vwCl [(h0, .inr (5, [.int 0, .int 0, .null, .null, .ref q_1, .ref q_4, .ref q_12, .null, .null, .int 0, .int 0, .int 0, .int 0, .int 0, .int 0])), (q_1, .inl (cA_2, 4, .inr (.inr (.inr (.inr (fun _ => none)))))), (q_4, .inr (4, [.ref x_8, .ref x_9, .ref x_10, .ref x_11, .int 0])), (q_12, .inl (cA_13, 6, .inl (fun _ => 0))), (q_15, .inl (cA_16, 4, .inr (.inl (fun _ => 0))))] H := hP
  have hD : va_D A [(h0, .inr (5, [.int 0, .int 0, .null, .null, .ref q_1, .ref q_4, .ref q_12, .null, .null, .int 0, .int 0, .int 0, .int 0, .int 0, .int 0])), (q_1, .inl (cA_2, 4, .inr (.inr (.inr (.inr (fun _ => none)))))), (q_4, .inr (4, [.ref x_8, .ref x_9, .ref x_10, .ref x_11, .int 0])), (q_12, .inl (cA_13, 6, .inl (fun _ => 0))), (q_15, .inl (cA_16, 4, .inr (.inl (fun _ => 0))))] := hD
  have hK : va_K (dC, dI) vwCl [(cA_2, .object RX7), (cA_13, .int), (cA_16, .long)] s := hK
  refine W.widen (k := 8) (n := 67) (by decide +kernel) (by decide +kernel) ?_
  refine va_putF (D := (dC, dI)) (ci := 5) (v := .ref q_15) (ty := .array .long) (C := RX5) (T := TX5) (N := 15) hx hb hts (fun w h => List.mem_cons_of_mem _ (List.mem_append_right _ (List.mem_append_left _ h))) tyX5 tyX5_ok nmX5 hown hK hP hD hS 0 rfl rfl 7 (by decide +kernel) (hts (.fieldLink RX5 28 "SixNet$Node" "routerLows" "[J") (List.mem_cons_of_mem _ (List.mem_append_left _ (List.mem_of_getElem? (i := 13) rfl)))) (fun _ h9 => h9) rfl hin rfl (by decide +kernel) rfl rfl (Nat.le_of_ble_eq_true rfl) dX5_init_35 (fun H locs hP hD hS => ?_)
  have hP : va_P (dC, dI) vwCl [(h0, .inr (5, [.int 0, .int 0, .null, .null, .ref q_1, .ref q_4, .ref q_12, .ref q_15, .null, .int 0, .int 0, .int 0, .int 0, .int 0, .int 0])), (q_1, .inl (cA_2, 4, .inr (.inr (.inr (.inr (fun _ => none)))))), (q_4, .inr (4, [.ref x_8, .ref x_9, .ref x_10, .ref x_11, .int 0])), (q_12, .inl (cA_13, 6, .inl (fun _ => 0))), (q_15, .inl (cA_16, 4, .inr (.inl (fun _ => 0))))] H := hP
  have hD : va_D A [(h0, .inr (5, [.int 0, .int 0, .null, .null, .ref q_1, .ref q_4, .ref q_12, .ref q_15, .null, .int 0, .int 0, .int 0, .int 0, .int 0, .int 0])), (q_1, .inl (cA_2, 4, .inr (.inr (.inr (.inr (fun _ => none)))))), (q_4, .inr (4, [.ref x_8, .ref x_9, .ref x_10, .ref x_11, .int 0])), (q_12, .inl (cA_13, 6, .inl (fun _ => 0))), (q_15, .inl (cA_16, 4, .inr (.inl (fun _ => 0))))] := hD
  refine lv_aload_n hx hb dX5_init_38 rfl (lv_at hl 0 rfl) ?_
  refine lv_iconst (v := 4) hx hb dX5_init_39 (by decide +kernel) ?_
  have hr_20c : 8 + 1 ≤ 11 := by decide +kernel
  have hr_20s : 67 + 4 ≤ 72 := by decide +kernel
  refine va_newa (atype := .int) (D := (dC, dI)) (ty := .int) (N' := 4) (a0 := (4, .inl (fun _ => 0))) hx hb (hts (.arrayClass .int) (List.mem_cons_of_mem _ (List.mem_append_left _ (List.mem_of_getElem? (i := 10) rfl)))) rfl hK hP hD hS hA (fun _ => rfl) (by decide +kernel) (by decide +kernel) (by decide +kernel) hr_20c hr_20s dX5_init_40 (fun q_18 cA_19 H hK hP hD hS => ?_)
  have hP : va_P (dC, dI) vwCl [(h0, .inr (5, [.int 0, .int 0, .null, .null, .ref q_1, .ref q_4, .ref q_12, .ref q_15, .null, .int 0, .int 0, .int 0, .int 0, .int 0, .int 0])), (q_1, .inl (cA_2, 4, .inr (.inr (.inr (.inr (fun _ => none)))))), (q_4, .inr (4, [.ref x_8, .ref x_9, .ref x_10, .ref x_11, .int 0])), (q_12, .inl (cA_13, 6, .inl (fun _ => 0))), (q_15, .inl (cA_16, 4, .inr (.inl (fun _ => 0)))), (q_18, .inl (cA_19, 4, .inl (fun _ => 0)))] H := hP
  have hD : va_D A [(h0, .inr (5, [.int 0, .int 0, .null, .null, .ref q_1, .ref q_4, .ref q_12, .ref q_15, .null, .int 0, .int 0, .int 0, .int 0, .int 0, .int 0])), (q_1, .inl (cA_2, 4, .inr (.inr (.inr (.inr (fun _ => none)))))), (q_4, .inr (4, [.ref x_8, .ref x_9, .ref x_10, .ref x_11, .int 0])), (q_12, .inl (cA_13, 6, .inl (fun _ => 0))), (q_15, .inl (cA_16, 4, .inr (.inl (fun _ => 0)))), (q_18, .inl (cA_19, 4, .inl (fun _ => 0)))] := hD
  have hK : va_K (dC, dI) vwCl [(cA_2, .object RX7), (cA_13, .int), (cA_16, .long), (cA_19, .int)] s := hK
  refine W.widen (k := 9) (n := 71) (by decide +kernel) (by decide +kernel) ?_
  refine va_putF (D := (dC, dI)) (ci := 5) (v := .ref q_18) (ty := .array .int) (C := RX5) (T := TX5) (N := 15) hx hb hts (fun w h => List.mem_cons_of_mem _ (List.mem_append_right _ (List.mem_append_left _ h))) tyX5 tyX5_ok nmX5 hown hK hP hD hS 0 rfl rfl 8 (by decide +kernel) (hts (.fieldLink RX5 32 "SixNet$Node" "routerUntils" "[I") (List.mem_cons_of_mem _ (List.mem_append_left _ (List.mem_of_getElem? (i := 14) rfl)))) (fun _ h9 => h9) rfl hin rfl (by decide +kernel) rfl rfl (Nat.le_of_ble_eq_true rfl) dX5_init_42 (fun H locs hP hD hS => ?_)
  have hP : va_P (dC, dI) vwCl [(h0, .inr (5, [.int 0, .int 0, .null, .null, .ref q_1, .ref q_4, .ref q_12, .ref q_15, .ref q_18, .int 0, .int 0, .int 0, .int 0, .int 0, .int 0])), (q_1, .inl (cA_2, 4, .inr (.inr (.inr (.inr (fun _ => none)))))), (q_4, .inr (4, [.ref x_8, .ref x_9, .ref x_10, .ref x_11, .int 0])), (q_12, .inl (cA_13, 6, .inl (fun _ => 0))), (q_15, .inl (cA_16, 4, .inr (.inl (fun _ => 0)))), (q_18, .inl (cA_19, 4, .inl (fun _ => 0)))] H := hP
  have hD : va_D A [(h0, .inr (5, [.int 0, .int 0, .null, .null, .ref q_1, .ref q_4, .ref q_12, .ref q_15, .ref q_18, .int 0, .int 0, .int 0, .int 0, .int 0, .int 0])), (q_1, .inl (cA_2, 4, .inr (.inr (.inr (.inr (fun _ => none)))))), (q_4, .inr (4, [.ref x_8, .ref x_9, .ref x_10, .ref x_11, .int 0])), (q_12, .inl (cA_13, 6, .inl (fun _ => 0))), (q_15, .inl (cA_16, 4, .inr (.inl (fun _ => 0)))), (q_18, .inl (cA_19, 4, .inl (fun _ => 0)))] := hD
  refine lv_aload_n hx hb dX5_init_45 rfl (lv_at hl 0 rfl) ?_
  refine lv_iload_n hx hb dX5_init_46 rfl (lv_at hl 1 rfl) ?_
  refine va_putF (D := (dC, dI)) (ci := 5) (v := .int k) (ty := .int) (C := RX5) (T := TX5) (N := 15) hx hb hts (fun w h => List.mem_cons_of_mem _ (List.mem_append_right _ (List.mem_append_left _ h))) tyX5 tyX5_ok nmX5 hown hK hP hD hS 0 rfl rfl 0 (by decide +kernel) (hts (.fieldLink RX5 35 "SixNet$Node" "number" "I") (List.mem_cons_of_mem _ (List.mem_append_left _ (List.mem_of_getElem? (i := 15) rfl)))) (fun _ h9 => h9) rfl hin rfl (by decide +kernel) rfl rfl (Nat.le_of_ble_eq_true rfl) dX5_init_47 (fun H locs hP hD hS => ?_)
  have hP : va_P (dC, dI) vwCl [(h0, .inr (5, [.int k, .int 0, .null, .null, .ref q_1, .ref q_4, .ref q_12, .ref q_15, .ref q_18, .int 0, .int 0, .int 0, .int 0, .int 0, .int 0])), (q_1, .inl (cA_2, 4, .inr (.inr (.inr (.inr (fun _ => none)))))), (q_4, .inr (4, [.ref x_8, .ref x_9, .ref x_10, .ref x_11, .int 0])), (q_12, .inl (cA_13, 6, .inl (fun _ => 0))), (q_15, .inl (cA_16, 4, .inr (.inl (fun _ => 0)))), (q_18, .inl (cA_19, 4, .inl (fun _ => 0)))] H := hP
  have hD : va_D A [(h0, .inr (5, [.int k, .int 0, .null, .null, .ref q_1, .ref q_4, .ref q_12, .ref q_15, .ref q_18, .int 0, .int 0, .int 0, .int 0, .int 0, .int 0])), (q_1, .inl (cA_2, 4, .inr (.inr (.inr (.inr (fun _ => none)))))), (q_4, .inr (4, [.ref x_8, .ref x_9, .ref x_10, .ref x_11, .int 0])), (q_12, .inl (cA_13, 6, .inl (fun _ => 0))), (q_15, .inl (cA_16, 4, .inr (.inl (fun _ => 0)))), (q_18, .inl (cA_19, 4, .inl (fun _ => 0)))] := hD
  refine lv_aload_n hx hb dX5_init_50 rfl (lv_at hl 0 rfl) ?_
  refine lv_iload_n hx hb dX5_init_51 rfl (lv_at hl 2 rfl) ?_
  refine va_putF (D := (dC, dI)) (ci := 5) (v := .int 0) (ty := .boolean) (C := RX5) (T := TX5) (N := 15) hx hb hts (fun w h => List.mem_cons_of_mem _ (List.mem_append_right _ (List.mem_append_left _ h))) tyX5 tyX5_ok nmX5 hown hK hP hD hS 0 rfl rfl 1 (by decide +kernel) (hts (.fieldLink RX5 39 "SixNet$Node" "router" "Z") (List.mem_cons_of_mem _ (List.mem_append_left _ (List.mem_of_getElem? (i := 16) rfl)))) (fun _ h9 => h9) rfl hin rfl (by decide +kernel) (by decide +kernel) (by decide +kernel) (Nat.le_of_ble_eq_true rfl) dX5_init_52 (fun H locs hP hD hS => ?_)
  have hP : va_P (dC, dI) vwCl [(h0, .inr (5, [.int k, .int 0, .null, .null, .ref q_1, .ref q_4, .ref q_12, .ref q_15, .ref q_18, .int 0, .int 0, .int 0, .int 0, .int 0, .int 0])), (q_1, .inl (cA_2, 4, .inr (.inr (.inr (.inr (fun _ => none)))))), (q_4, .inr (4, [.ref x_8, .ref x_9, .ref x_10, .ref x_11, .int 0])), (q_12, .inl (cA_13, 6, .inl (fun _ => 0))), (q_15, .inl (cA_16, 4, .inr (.inl (fun _ => 0)))), (q_18, .inl (cA_19, 4, .inl (fun _ => 0)))] H := hP
  have hD : va_D A [(h0, .inr (5, [.int k, .int 0, .null, .null, .ref q_1, .ref q_4, .ref q_12, .ref q_15, .ref q_18, .int 0, .int 0, .int 0, .int 0, .int 0, .int 0])), (q_1, .inl (cA_2, 4, .inr (.inr (.inr (.inr (fun _ => none)))))), (q_4, .inr (4, [.ref x_8, .ref x_9, .ref x_10, .ref x_11, .int 0])), (q_12, .inl (cA_13, 6, .inl (fun _ => 0))), (q_15, .inl (cA_16, 4, .inr (.inl (fun _ => 0)))), (q_18, .inl (cA_19, 4, .inl (fun _ => 0)))] := hD
  refine lv_aload_n hx hb dX5_init_55 rfl (lv_at hl 0 rfl) ?_
  refine lv_iload_n hx hb dX5_init_56 rfl (lv_at hl 2 rfl) ?_
  refine lv_if_eq (tgt := 65) hx hb dX5_init_57 (by decide +kernel) (fun c_21 => ?_) (fun c_21 => ?_)
  · refine lv_iconst (v := 1) hx hb dX5_init_65 (by decide +kernel) ?_
    have hr_24c : 9 + 1 ≤ 11 := by decide +kernel
    have hr_24s : 71 + 1 ≤ 72 := by decide +kernel
    refine va_newq (D := (dC, dI)) (C := RX1) (N' := 1) hx hb hown (hts (.classLink RX5 43 RX1) (List.mem_cons_of_mem _ (List.mem_append_left _ (List.mem_of_getElem? (i := 17) rfl)))) hpr1 hK hP hD hS hA (by decide +kernel) (by decide +kernel) (by decide +kernel) hr_24c hr_24s dX5_init_66 (fun q_22 cA_23 H hK hP hD hS => ?_)
    have hP : va_P (dC, dI) vwCl [(h0, .inr (5, [.int k, .int 0, .null, .null, .ref q_1, .ref q_4, .ref q_12, .ref q_15, .ref q_18, .int 0, .int 0, .int 0, .int 0, .int 0, .int 0])), (q_1, .inl (cA_2, 4, .inr (.inr (.inr (.inr (fun _ => none)))))), (q_4, .inr (4, [.ref x_8, .ref x_9, .ref x_10, .ref x_11, .int 0])), (q_12, .inl (cA_13, 6, .inl (fun _ => 0))), (q_15, .inl (cA_16, 4, .inr (.inl (fun _ => 0)))), (q_18, .inl (cA_19, 4, .inl (fun _ => 0))), (q_22, .inl (cA_23, 1, .inr (.inr (.inr (.inr (fun _ => none))))))] H := hP
    have hD : va_D A [(h0, .inr (5, [.int k, .int 0, .null, .null, .ref q_1, .ref q_4, .ref q_12, .ref q_15, .ref q_18, .int 0, .int 0, .int 0, .int 0, .int 0, .int 0])), (q_1, .inl (cA_2, 4, .inr (.inr (.inr (.inr (fun _ => none)))))), (q_4, .inr (4, [.ref x_8, .ref x_9, .ref x_10, .ref x_11, .int 0])), (q_12, .inl (cA_13, 6, .inl (fun _ => 0))), (q_15, .inl (cA_16, 4, .inr (.inl (fun _ => 0)))), (q_18, .inl (cA_19, 4, .inl (fun _ => 0))), (q_22, .inl (cA_23, 1, .inr (.inr (.inr (.inr (fun _ => none))))))] := hD
    have hK : va_K (dC, dI) vwCl [(cA_2, .object RX7), (cA_13, .int), (cA_16, .long), (cA_19, .int), (cA_23, .object RX1)] s := hK
    refine W.widen (k := 10) (n := 72) (by decide +kernel) (by decide +kernel) ?_
    refine va_putF (D := (dC, dI)) (ci := 5) (v := .ref q_22) (ty := .array (.object "SixNet$Face")) (C := RX5) (T := TX5) (N := 15) hx hb hts (fun w h => List.mem_cons_of_mem _ (List.mem_append_right _ (List.mem_append_left _ h))) tyX5 tyX5_ok nmX5 hown hK hP hD hS 0 rfl rfl 2 (by decide +kernel) (hts (.fieldLink RX5 45 "SixNet$Node" "faces" "[LSixNet$Face;") (List.mem_cons_of_mem _ (List.mem_append_left _ (List.mem_of_getElem? (i := 18) rfl)))) (fun _ h9 => h9) rfl hin rfl (by decide +kernel) rfl rfl (Nat.le_of_ble_eq_true rfl) dX5_init_69 (fun H locs hP hD hS => ?_)
    have hP : va_P (dC, dI) vwCl [(h0, .inr (5, [.int k, .int 0, .ref q_22, .null, .ref q_1, .ref q_4, .ref q_12, .ref q_15, .ref q_18, .int 0, .int 0, .int 0, .int 0, .int 0, .int 0])), (q_1, .inl (cA_2, 4, .inr (.inr (.inr (.inr (fun _ => none)))))), (q_4, .inr (4, [.ref x_8, .ref x_9, .ref x_10, .ref x_11, .int 0])), (q_12, .inl (cA_13, 6, .inl (fun _ => 0))), (q_15, .inl (cA_16, 4, .inr (.inl (fun _ => 0)))), (q_18, .inl (cA_19, 4, .inl (fun _ => 0))), (q_22, .inl (cA_23, 1, .inr (.inr (.inr (.inr (fun _ => none))))))] H := hP
    have hD : va_D A [(h0, .inr (5, [.int k, .int 0, .ref q_22, .null, .ref q_1, .ref q_4, .ref q_12, .ref q_15, .ref q_18, .int 0, .int 0, .int 0, .int 0, .int 0, .int 0])), (q_1, .inl (cA_2, 4, .inr (.inr (.inr (.inr (fun _ => none)))))), (q_4, .inr (4, [.ref x_8, .ref x_9, .ref x_10, .ref x_11, .int 0])), (q_12, .inl (cA_13, 6, .inl (fun _ => 0))), (q_15, .inl (cA_16, 4, .inr (.inl (fun _ => 0)))), (q_18, .inl (cA_19, 4, .inl (fun _ => 0))), (q_22, .inl (cA_23, 1, .inr (.inr (.inr (.inr (fun _ => none))))))] := hD
    refine lv_aload_n hx hb dX5_init_72 rfl (lv_at hl 0 rfl) ?_
    refine lv_iload_n hx hb dX5_init_73 rfl (lv_at hl 2 rfl) ?_
    refine lv_if_eq (tgt := 82) hx hb dX5_init_74 (by decide +kernel) (fun c_25 => ?_) (fun c_25 => ?_)
    · refine lv_iconst (v := 0) hx hb dX5_init_82 (by decide +kernel) ?_
      have hr_28c : 10 + 1 ≤ 11 := by decide +kernel
      have hr_28s : 72 + 0 ≤ 72 := by decide +kernel
      refine va_newq (D := (dC, dI)) (C := RX8) (N' := 0) hx hb hown (hts (.classLink RX5 49 RX8) (List.mem_cons_of_mem _ (List.mem_append_left _ (List.mem_of_getElem? (i := 19) rfl)))) hpr2 hK hP hD hS hA (by decide +kernel) (by decide +kernel) (by decide +kernel) hr_28c hr_28s dX5_init_83 (fun q_26 cA_27 H hK hP hD hS => ?_)
      have hP : va_P (dC, dI) vwCl [(h0, .inr (5, [.int k, .int 0, .ref q_22, .null, .ref q_1, .ref q_4, .ref q_12, .ref q_15, .ref q_18, .int 0, .int 0, .int 0, .int 0, .int 0, .int 0])), (q_1, .inl (cA_2, 4, .inr (.inr (.inr (.inr (fun _ => none)))))), (q_4, .inr (4, [.ref x_8, .ref x_9, .ref x_10, .ref x_11, .int 0])), (q_12, .inl (cA_13, 6, .inl (fun _ => 0))), (q_15, .inl (cA_16, 4, .inr (.inl (fun _ => 0)))), (q_18, .inl (cA_19, 4, .inl (fun _ => 0))), (q_22, .inl (cA_23, 1, .inr (.inr (.inr (.inr (fun _ => none)))))), (q_26, .inl (cA_27, 0, .inr (.inr (.inr (.inr (fun _ => none))))))] H := hP
      have hD : va_D A [(h0, .inr (5, [.int k, .int 0, .ref q_22, .null, .ref q_1, .ref q_4, .ref q_12, .ref q_15, .ref q_18, .int 0, .int 0, .int 0, .int 0, .int 0, .int 0])), (q_1, .inl (cA_2, 4, .inr (.inr (.inr (.inr (fun _ => none)))))), (q_4, .inr (4, [.ref x_8, .ref x_9, .ref x_10, .ref x_11, .int 0])), (q_12, .inl (cA_13, 6, .inl (fun _ => 0))), (q_15, .inl (cA_16, 4, .inr (.inl (fun _ => 0)))), (q_18, .inl (cA_19, 4, .inl (fun _ => 0))), (q_22, .inl (cA_23, 1, .inr (.inr (.inr (.inr (fun _ => none)))))), (q_26, .inl (cA_27, 0, .inr (.inr (.inr (.inr (fun _ => none))))))] := hD
      have hK : va_K (dC, dI) vwCl [(cA_2, .object RX7), (cA_13, .int), (cA_16, .long), (cA_19, .int), (cA_23, .object RX1), (cA_27, .object RX8)] s := hK
      refine W.widen (k := 11) (n := 72) (by decide +kernel) (by decide +kernel) ?_
      refine va_putF (D := (dC, dI)) (ci := 5) (v := .ref q_26) (ty := .array (.object "SixNet$Route")) (C := RX5) (T := TX5) (N := 15) hx hb hts (fun w h => List.mem_cons_of_mem _ (List.mem_append_right _ (List.mem_append_left _ h))) tyX5 tyX5_ok nmX5 hown hK hP hD hS 0 rfl rfl 3 (by decide +kernel) (hts (.fieldLink RX5 51 "SixNet$Node" "routes" "[LSixNet$Route;") (List.mem_cons_of_mem _ (List.mem_append_left _ (List.mem_of_getElem? (i := 20) rfl)))) (fun _ h9 => h9) rfl hin rfl (by decide +kernel) rfl rfl (Nat.le_of_ble_eq_true rfl) dX5_init_86 (fun H locs hP hD hS => ?_)
      have hP : va_P (dC, dI) vwCl [(h0, .inr (5, [.int k, .int 0, .ref q_22, .ref q_26, .ref q_1, .ref q_4, .ref q_12, .ref q_15, .ref q_18, .int 0, .int 0, .int 0, .int 0, .int 0, .int 0])), (q_1, .inl (cA_2, 4, .inr (.inr (.inr (.inr (fun _ => none)))))), (q_4, .inr (4, [.ref x_8, .ref x_9, .ref x_10, .ref x_11, .int 0])), (q_12, .inl (cA_13, 6, .inl (fun _ => 0))), (q_15, .inl (cA_16, 4, .inr (.inl (fun _ => 0)))), (q_18, .inl (cA_19, 4, .inl (fun _ => 0))), (q_22, .inl (cA_23, 1, .inr (.inr (.inr (.inr (fun _ => none)))))), (q_26, .inl (cA_27, 0, .inr (.inr (.inr (.inr (fun _ => none))))))] H := hP
      have hD : va_D A [(h0, .inr (5, [.int k, .int 0, .ref q_22, .ref q_26, .ref q_1, .ref q_4, .ref q_12, .ref q_15, .ref q_18, .int 0, .int 0, .int 0, .int 0, .int 0, .int 0])), (q_1, .inl (cA_2, 4, .inr (.inr (.inr (.inr (fun _ => none)))))), (q_4, .inr (4, [.ref x_8, .ref x_9, .ref x_10, .ref x_11, .int 0])), (q_12, .inl (cA_13, 6, .inl (fun _ => 0))), (q_15, .inl (cA_16, 4, .inr (.inl (fun _ => 0)))), (q_18, .inl (cA_19, 4, .inl (fun _ => 0))), (q_22, .inl (cA_23, 1, .inr (.inr (.inr (.inr (fun _ => none)))))), (q_26, .inl (cA_27, 0, .inr (.inr (.inr (.inr (fun _ => none))))))] := hD
      have hP9 := hP.sub (ws' := [(h0, .inr (5, [.int k, .int 0, .ref q_22, .ref q_26, .ref q_1, .ref q_4, .ref q_12, .ref q_15, .ref q_18, .int 0, .int 0, .int 0, .int 0, .int 0, .int 0]))]) [0] rfl
      have hD9 := hD.sub (ws' := [(h0, .inr (5, [.int k, .int 0, .ref q_22, .ref q_26, .ref q_1, .ref q_4, .ref q_12, .ref q_15, .ref q_18, .int 0, .int 0, .int 0, .int 0, .int 0, .int 0]))]) [0] (by decide +kernel) rfl
      have hK9 := hK.sub (tys' := []) [] rfl
      exact W.vret hx hb hr (fun t ht hW => ⟨⟨(), rfl, trivial, q_22, q_26, q_1, q_4, q_12, q_15, q_18, by rw [ht]; exact hP9, va_K.moved hW.alike hK9, hD9⟩, hS.F ht⟩) hS.2.2 dX5_init_89
    · exact absurd c_25 (by decide +kernel)
  · exact absurd c_21 (by decide +kernel)
def wq_X5_init_1_o : List Cond := [.methodLink RX5 3 objectInit, .instanceMethod objectInit, .code objectInit ⟨#[0xb1]⟩ 1 none, .classLink RX5 9 RX7, .fieldLink RX5 11 "SixNet$Node" "parts" "[LSixNet$Parts;", .classLink RX5 17 RX4, .instantiable RX4 5, .initialized RX4, .instanceMethod yX4_init, .fieldLink RX5 20 "SixNet$Node" "mtus" "LSixNet$Mtus;", .arrayClass .int, .fieldLink RX5 24 "SixNet$Node" "tallies" "[I", .arrayClass .long, .fieldLink RX5 28 "SixNet$Node" "routerLows" "[J", .fieldLink RX5 32 "SixNet$Node" "routerUntils" "[I", .fieldLink RX5 35 "SixNet$Node" "number" "I", .fieldLink RX5 39 "SixNet$Node" "router" "Z", .classLink RX5 43 RX1, .fieldLink RX5 45 "SixNet$Node" "faces" "[LSixNet$Face;", .classLink RX5 49 RX8, .fieldLink RX5 51 "SixNet$Node" "routes" "[LSixNet$Route;"]
def wq_X5_init_1 : List Cond := .code yX5_init cX5_init 3 none :: (wq_X5_init_1_o ++ (wsX50 ++ (wsX40 ++ (wq_X4_init ++ ([])))))
set_option maxRecDepth 20000 in
theorem gt_wq_X5_init_1 : GoodIn lw_tbl wq_X5_init_1 := goodIn_ca (goodIn_p (.code yX5_init cX5_init 3 none :: wq_X5_init_1_o) [306, 154] (by decide +kernel) (by decide +kernel)) (goodIn_app gt_wsX50 (goodIn_app gt_wsX40 (goodIn_app gt_wq_X4_init (fun _ h => absurd h List.not_mem_nil))))
set_option maxRecDepth 20000 in
theorem wq_X5_init_1_g2 : GoodIn wq_X5_init_1 wq_X4_init := goodIn_sub (fun w h => List.mem_cons_of_mem _ (List.mem_append_right _ (List.mem_append_right _ (List.mem_append_right _ (List.mem_append_left _ h))))) (by decide +kernel)
set_option maxHeartbeats 4000000 in
set_option maxRecDepth 100000 in
theorem k_X5_init_1 (l : Launch) (dC : Nat → ClassId) (dI : Nat → Nat → Nat) (sz : Nat) (h0 : Nat) (k : Int32) : Met l yX5_init wq_X5_init_1 ({ frames := 6, cells := 11, slots := 137, locals := 400 }) (va_Pc [.ref h0, .int k, .int 1] (fun U => U.heap.size = sz ∧ va_P (dC, dI) vwCl [(h0, .inr (5, [.int 0, .int 0, .null, .null, .null, .null, .null, .null, .null, .int 0, .int 0, .int 0, .int 0, .int 0, .int 0]))] U.heap ∧ va_K (dC, dI) vwCl [] U ∧ va_D (fun _ => True) [(h0, .inr (5, [.int 0, .int 0, .null, .null, .null, .null, .null, .null, .null, .int 0, .int 0, .int 0, .int 0, .int 0, .int 0]))] ∧ va_AO RX7 U ∧ va_AO RX1 U ∧ va_AO RX8 U ∧ va_Nw (.methodLinkNest RX5 19 yX4_init "SixNet") U)) (va_Qv (fun (_ : Unit) => True) (fun (_ : Unit) (t : State) => ∃ (x2 : Nat), ∃ (x3 : Nat), ∃ (x4 : Nat), ∃ (x5 : Nat), ∃ (x6 : Nat), ∃ (x7 : Nat), ∃ (x8 : Nat), va_P (dC, dI) vwCl [(h0, .inr (5, [.int k, .int 1, .ref x2, .ref x3, .ref x4, .ref x5, .ref x6, .ref x7, .ref x8, .int 0, .int 0, .int 0, .int 0, .int 0, .int 0]))] t.heap ∧ va_K (dC, dI) vwCl [] t ∧ va_D (va_A [(h0, .inr (5, [.int 0, .int 0, .null, .null, .null, .null, .null, .null, .null, .int 0, .int 0, .int 0, .int 0, .int 0, .int 0]))] sz) [(h0, .inr (5, [.int k, .int 1, .ref x2, .ref x3, .ref x4, .ref x5, .ref x6, .ref x7, .ref x8, .int 0, .int 0, .int 0, .int 0, .int 0, .int 0]))]) (va_A [(h0, .inr (5, [.int 0, .int 0, .null, .null, .null, .null, .null, .null, .null, .int 0, .int 0, .int 0, .int 0, .int 0, .int 0]))] sz)) 11 137 (va_A [(h0, .inr (5, [.int 0, .int 0, .null, .null, .null, .null, .null, .null, .null, .int 0, .int 0, .int 0, .int 0, .int 0, .int 0]))] sz) := by
  refine Met.ofW (cc := cX5_init) (maxL := 3) (ret := none) (by decide +kernel) rfl ?_
  intro p e s m args below meth c s₁ B hml hv
  obtain ⟨rfl, hsz, hP, hK, hD0, hpr0, hpr1, hpr2, hpr3⟩ := hv
  have hx := B.exec
  have hb := B.bytes
  have hr := B.returns
  have hts := atoms_spec (ws := wq_X5_init_1) B.pre
  have hown : s.vm.findClass RX5 = some m.cls := findClass_of_methodNamed B.named
  have hlocks := B.notSynchronized
  have hin : meth.name = "<init>" := (name_of_methodNamed B.named B.method).1
  subst hsz
  have hD := hD0.self (sz := s.heap.size)
  generalize hAe : va_A [(h0, .inr (5, [.int 0, .int 0, .null, .null, .null, .null, .null, .null, .null, .int 0, .int 0, .int 0, .int 0, .int 0, .int 0]))] s.heap.size = A at hD ⊢
  have hA : ∀ q : Nat, s.heap.size ≤ q → A q := fun q h => by rw [← hAe]; exact Or.inr h
  have hS : va_S A s.heap s.heap [] := va_S.rf
  have hP : va_P (dC, dI) vwCl [(h0, .inr (5, [.int 0, .int 0, .null, .null, .null, .null, .null, .null, .null, .int 0, .int 0, .int 0, .int 0, .int 0, .int 0]))] s.heap := hP
  have hl := lv_entry ([.ref h0, .int k, .int 1]) (n := 3) (Nat.le_of_ble_eq_true rfl)
  rw [lg_entry_eq]
  generalize (lg_sl ([.ref h0, .int k, .int 1]) ++ List.replicate (3 - (lg_sl ([.ref h0, .int k, .int 1])).length) Slot.unset).toArray = ls at hl ⊢
  have hl : lv_has ls 3 [(0, .ref h0), (1, .int k), (2, .int 1)] := hl
  refine lv_aload_n hx hb dX5_init_0 rfl (lv_at hl 0 rfl) ?_
  refine W.objInit hx hb hown (hts (.methodLink RX5 3 objectInit) (List.mem_cons_of_mem _ (List.mem_append_left _ (List.mem_of_getElem? (i := 0) rfl)))) (hts (.instanceMethod objectInit) (List.mem_cons_of_mem _ (List.mem_append_left _ (List.mem_of_getElem? (i := 1) rfl)))) (hts (.code objectInit ⟨#[0xb1]⟩ 1 none) (List.mem_cons_of_mem _ (List.mem_append_left _ (List.mem_of_getElem? (i := 2) rfl)))) rfl (by rw [hml]; exact hl.1) rfl dX5_init_1 (Nat.le_of_ble_eq_true rfl) (Nat.le_of_ble_eq_true rfl) ?_
  refine W.eq (g2 := F0 m 4 ls []) rfl ?_
  refine lv_aload_n hx hb dX5_init_4 rfl (lv_at hl 0 rfl) ?_
  refine lv_iconst (v := 4) hx hb dX5_init_5 (by decide +kernel) ?_
  have hr_3c : 0 + 1 ≤ 11 := by decide +kernel
  have hr_3s : 0 + 4 ≤ 137 := by decide +kernel
  refine va_newq (D := (dC, dI)) (C := RX7) (N' := 4) hx hb hown (hts (.classLink RX5 9 RX7) (List.mem_cons_of_mem _ (List.mem_append_left _ (List.mem_of_getElem? (i := 3) rfl)))) hpr0 hK hP hD hS hA (by decide +kernel) (by decide +kernel) (by decide +kernel) hr_3c hr_3s dX5_init_6 (fun q_1 cA_2 H hK hP hD hS => ?_)
  have hP : va_P (dC, dI) vwCl [(h0, .inr (5, [.int 0, .int 0, .null, .null, .null, .null, .null, .null, .null, .int 0, .int 0, .int 0, .int 0, .int 0, .int 0])), (q_1, .inl (cA_2, 4, .inr (.inr (.inr (.inr (fun _ => none))))))] H := hP
  have hD : va_D A [(h0, .inr (5, [.int 0, .int 0, .null, .null, .null, .null, .null, .null, .null, .int 0, .int 0, .int 0, .int 0, .int 0, .int 0])), (q_1, .inl (cA_2, 4, .inr (.inr (.inr (.inr (fun _ => none))))))] := hD
  have hK : va_K (dC, dI) vwCl [(cA_2, .object RX7)] s := hK
  refine W.widen (k := 1) (n := 4) (by decide +kernel) (by decide +kernel) ?_
  refine va_putF (D := (dC, dI)) (ci := 5) (v := .ref q_1) (ty := .array (.object "SixNet$Parts")) (C := RX5) (T := TX5) (N := 15) hx hb hts (fun w h => List.mem_cons_of_mem _ (List.mem_append_right _ (List.mem_append_left _ h))) tyX5 tyX5_ok nmX5 hown hK hP hD hS 0 rfl rfl 4 (by decide +kernel) (hts (.fieldLink RX5 11 "SixNet$Node" "parts" "[LSixNet$Parts;") (List.mem_cons_of_mem _ (List.mem_append_left _ (List.mem_of_getElem? (i := 4) rfl)))) (fun _ h9 => h9) rfl hin rfl (by decide +kernel) rfl rfl (Nat.le_of_ble_eq_true rfl) dX5_init_9 (fun H locs hP hD hS => ?_)
  have hP : va_P (dC, dI) vwCl [(h0, .inr (5, [.int 0, .int 0, .null, .null, .ref q_1, .null, .null, .null, .null, .int 0, .int 0, .int 0, .int 0, .int 0, .int 0])), (q_1, .inl (cA_2, 4, .inr (.inr (.inr (.inr (fun _ => none))))))] H := hP
  have hD : va_D A [(h0, .inr (5, [.int 0, .int 0, .null, .null, .ref q_1, .null, .null, .null, .null, .int 0, .int 0, .int 0, .int 0, .int 0, .int 0])), (q_1, .inl (cA_2, 4, .inr (.inr (.inr (.inr (fun _ => none))))))] := hD
  refine lv_aload_n hx hb dX5_init_12 rfl (lv_at hl 0 rfl) ?_
  have hr_5c : 1 + 1 ≤ 11 := by decide +kernel
  have hr_5s : 4 + 5 ≤ 137 := by decide +kernel
  refine va_new (ci := 4) (fs := [.null, .null, .null, .null, .int 0]) (C := RX4) (T := TX4) (N := 5) hx hb hts (fun w h => List.mem_cons_of_mem _ (List.mem_append_right _ (List.mem_append_right _ (List.mem_append_left _ h)))) tyX4 tyX4_ok hown (hts (.classLink RX5 17 RX4) (List.mem_cons_of_mem _ (List.mem_append_left _ (List.mem_of_getElem? (i := 5) rfl)))) (hts (.instantiable RX4 5) (List.mem_cons_of_mem _ (List.mem_append_left _ (List.mem_of_getElem? (i := 6) rfl)))) (hts (.initialized RX4) (List.mem_cons_of_mem _ (List.mem_append_left _ (List.mem_of_getElem? (i := 7) rfl)))) hK hP hD hS hA rfl (fun j hj => by rcases (show j = 0 ∨ j = 1 ∨ j = 2 ∨ j = 3 ∨ j = 4 by omega) with rfl | rfl | rfl | rfl | rfl <;> rfl) hr_5c hr_5s dX5_init_13 (fun q_4 H hP hD hS => ?_)
  have hP : va_P (dC, dI) vwCl [(h0, .inr (5, [.int 0, .int 0, .null, .null, .ref q_1, .null, .null, .null, .null, .int 0, .int 0, .int 0, .int 0, .int 0, .int 0])), (q_1, .inl (cA_2, 4, .inr (.inr (.inr (.inr (fun _ => none)))))), (q_4, .inr (4, [.null, .null, .null, .null, .int 0]))] H := hP
  have hD : va_D A [(h0, .inr (5, [.int 0, .int 0, .null, .null, .ref q_1, .null, .null, .null, .null, .int 0, .int 0, .int 0, .int 0, .int 0, .int 0])), (q_1, .inl (cA_2, 4, .inr (.inr (.inr (.inr (fun _ => none)))))), (q_4, .inr (4, [.null, .null, .null, .null, .int 0]))] := hD
  refine W.widen (k := 2) (n := 9) (by decide +kernel) (by decide +kernel) ?_
  refine lv_dup hx hb dX5_init_16 rfl ?_
  have hPc := hP.sub (ws' := [(q_4, .inr (4, [.null, .null, .null, .null, .int 0]))]) [2] rfl
  have hDc := hD.sub (ws' := [(q_4, .inr (4, [.null, .null, .null, .null, .int 0]))]) [2] (by decide +kernel) rfl
  have hKc := hK.sub (tys' := []) [] rfl
  have hFc := va_free (wc := [(q_4, .inr (4, [.null, .null, .null, .null, .int 0]))]) hD hS hA [2] rfl
  have hr_7c : 2 + 4 ≤ 11 := by decide +kernel
  have hr_7s : 9 + 48 ≤ 137 := by decide +kernel
  refine va_callv (va_runIN (As := []) (rest := [.ref q_4, .ref h0]) ⟨hx, hb, hml, hown, hts⟩ (k_X4_init l dC dI H.size q_4) ⟨va_cnB 0 hts wq_X5_init_1_g2 rfl rfl rfl hpr3 (hts (.initialized RX4) (List.mem_cons_of_mem _ (List.mem_append_left _ (List.mem_of_getElem? (i := 7) rfl)))) (by decide +kernel) ⟨Nat.le_of_ble_eq_true rfl, Nat.le_of_ble_eq_true rfl⟩, rfl, (hts (.instanceMethod yX4_init) (List.mem_cons_of_mem _ (List.mem_append_left _ (List.mem_of_getElem? (i := 8) rfl))))⟩ ⟨fun a U g mk q => by obtain ⟨q0, q1, qP, qK, qD⟩ := q; exact ⟨q0, q1, qP, va_K.moved (u := U) (U := U.calling g mk a) (Vm.Alike.refl U.vm) qK, qD⟩, fun U hU hW => ⟨rfl, by rw [hU], by rw [hU]; exact hPc, va_K.moved hW.alike hKc, hDc.weaken (fun _ _ _ _ => trivial)⟩⟩ rfl rfl hl.1 rfl (lv_room (Nat.le_of_ble_eq_true rfl)) dX5_init_17 ⟨hr_7c, hr_7s⟩) hS (fun q _ h => hFc q h) hFc (fun u t H1 locs ht hvm hw hB hz1 hk1 hS => ?_)
  obtain ⟨x_8, x_9, x_10, x_11, hP1, hK1, hD1⟩ := hB
  rw [ht] at hP1
  obtain ⟨hP, hD⟩ := va_join (wr := [(h0, .inr (5, [.int 0, .int 0, .null, .null, .ref q_1, .null, .null, .null, .null, .int 0, .int 0, .int 0, .int 0, .int 0, .int 0])), (q_1, .inl (cA_2, 4, .inr (.inr (.inr (.inr (fun _ => none))))))]) (w1 := [(q_4, .inr (4, [.ref x_8, .ref x_9, .ref x_10, .ref x_11, .int 0]))]) hP hD [2] [0, 1] rfl rfl (by decide +kernel) (by decide +kernel) hk1 hFc hP1 hD1
  generalize H1 = H at hP hS ⊢
  have hP : va_P (dC, dI) vwCl [(h0, .inr (5, [.int 0, .int 0, .null, .null, .ref q_1, .null, .null, .null, .null, .int 0, .int 0, .int 0, .int 0, .int 0, .int 0])), (q_1, .inl (cA_2, 4, .inr (.inr (.inr (.inr (fun _ => none)))))), (q_4, .inr (4, [.ref x_8, .ref x_9, .ref x_10, .ref x_11, .int 0]))] H := hP
  have hD : va_D A [(h0, .inr (5, [.int 0, .int 0, .null, .null, .ref q_1, .null, .null, .null, .null, .int 0, .int 0, .int 0, .int 0, .int 0, .int 0])), (q_1, .inl (cA_2, 4, .inr (.inr (.inr (.inr (fun _ => none)))))), (q_4, .inr (4, [.ref x_8, .ref x_9, .ref x_10, .ref x_11, .int 0]))] := hD
  refine W.widen (k := 6) (n := 57) (by decide +kernel) (by decide +kernel) ?_
  refine va_putF (D := (dC, dI)) (ci := 5) (v := .ref q_4) (ty := .object "SixNet$Mtus") (C := RX5) (T := TX5) (N := 15) hx hb hts (fun w h => List.mem_cons_of_mem _ (List.mem_append_right _ (List.mem_append_left _ h))) tyX5 tyX5_ok nmX5 hown hK hP hD hS 0 rfl rfl 5 (by decide +kernel) (hts (.fieldLink RX5 20 "SixNet$Node" "mtus" "LSixNet$Mtus;") (List.mem_cons_of_mem _ (List.mem_append_left _ (List.mem_of_getElem? (i := 9) rfl)))) (fun _ h9 => h9) rfl hin rfl (by decide +kernel) rfl rfl (Nat.le_of_ble_eq_true rfl) dX5_init_20 (fun H locs hP hD hS => ?_)
  have hP : va_P (dC, dI) vwCl [(h0, .inr (5, [.int 0, .int 0, .null, .null, .ref q_1, .ref q_4, .null, .null, .null, .int 0, .int 0, .int 0, .int 0, .int 0, .int 0])), (q_1, .inl (cA_2, 4, .inr (.inr (.inr (.inr (fun _ => none)))))), (q_4, .inr (4, [.ref x_8, .ref x_9, .ref x_10, .ref x_11, .int 0]))] H := hP
  have hD : va_D A [(h0, .inr (5, [.int 0, .int 0, .null, .null, .ref q_1, .ref q_4, .null, .null, .null, .int 0, .int 0, .int 0, .int 0, .int 0, .int 0])), (q_1, .inl (cA_2, 4, .inr (.inr (.inr (.inr (fun _ => none)))))), (q_4, .inr (4, [.ref x_8, .ref x_9, .ref x_10, .ref x_11, .int 0]))] := hD
  refine lv_aload_n hx hb dX5_init_23 rfl (lv_at hl 0 rfl) ?_
  refine lv_bipush (v := 6) hx hb dX5_init_24 (by decide +kernel) ?_
  have hr_14c : 6 + 1 ≤ 11 := by decide +kernel
  have hr_14s : 57 + 6 ≤ 137 := by decide +kernel
  refine va_newa (atype := .int) (D := (dC, dI)) (ty := .int) (N' := 6) (a0 := (6, .inl (fun _ => 0))) hx hb (hts (.arrayClass .int) (List.mem_cons_of_mem _ (List.mem_append_left _ (List.mem_of_getElem? (i := 10) rfl)))) rfl hK hP hD hS hA (fun _ => rfl) (by decide +kernel) (by decide +kernel) (by decide +kernel) hr_14c hr_14s dX5_init_26 (fun q_12 cA_13 H hK hP hD hS => ?_)
  have hP : va_P (dC, dI) vwCl [(h0, .inr (5, [.int 0, .int 0, .null, .null, .ref q_1, .ref q_4, .null, .null, .null, .int 0, .int 0, .int 0, .int 0, .int 0, .int 0])), (q_1, .inl (cA_2, 4, .inr (.inr (.inr (.inr (fun _ => none)))))), (q_4, .inr (4, [.ref x_8, .ref x_9, .ref x_10, .ref x_11, .int 0])), (q_12, .inl (cA_13, 6, .inl (fun _ => 0)))] H := hP
  have hD : va_D A [(h0, .inr (5, [.int 0, .int 0, .null, .null, .ref q_1, .ref q_4, .null, .null, .null, .int 0, .int 0, .int 0, .int 0, .int 0, .int 0])), (q_1, .inl (cA_2, 4, .inr (.inr (.inr (.inr (fun _ => none)))))), (q_4, .inr (4, [.ref x_8, .ref x_9, .ref x_10, .ref x_11, .int 0])), (q_12, .inl (cA_13, 6, .inl (fun _ => 0)))] := hD
  have hK : va_K (dC, dI) vwCl [(cA_2, .object RX7), (cA_13, .int)] s := hK
  refine W.widen (k := 7) (n := 63) (by decide +kernel) (by decide +kernel) ?_
  refine va_putF (D := (dC, dI)) (ci := 5) (v := .ref q_12) (ty := .array .int) (C := RX5) (T := TX5) (N := 15) hx hb hts (fun w h => List.mem_cons_of_mem _ (List.mem_append_right _ (List.mem_append_left _ h))) tyX5 tyX5_ok nmX5 hown hK hP hD hS 0 rfl rfl 6 (by decide +kernel) (hts (.fieldLink RX5 24 "SixNet$Node" "tallies" "[I") (List.mem_cons_of_mem _ (List.mem_append_left _ (List.mem_of_getElem? (i := 11) rfl)))) (fun _ h9 => h9) rfl hin rfl (by decide +kernel) rfl rfl (Nat.le_of_ble_eq_true rfl) dX5_init_28 (fun H locs hP hD hS => ?_)
  have hP : va_P (dC, dI) vwCl [(h0, .inr (5, [.int 0, .int 0, .null, .null, .ref q_1, .ref q_4, .ref q_12, .null, .null, .int 0, .int 0, .int 0, .int 0, .int 0, .int 0])), (q_1, .inl (cA_2, 4, .inr (.inr (.inr (.inr (fun _ => none)))))), (q_4, .inr (4, [.ref x_8, .ref x_9, .ref x_10, .ref x_11, .int 0])), (q_12, .inl (cA_13, 6, .inl (fun _ => 0)))] H := hP
  have hD : va_D A [(h0, .inr (5, [.int 0, .int 0, .null, .null, .ref q_1, .ref q_4, .ref q_12, .null, .null, .int 0, .int 0, .int 0, .int 0, .int 0, .int 0])), (q_1, .inl (cA_2, 4, .inr (.inr (.inr (.inr (fun _ => none)))))), (q_4, .inr (4, [.ref x_8, .ref x_9, .ref x_10, .ref x_11, .int 0])), (q_12, .inl (cA_13, 6, .inl (fun _ => 0)))] := hD
  refine lv_aload_n hx hb dX5_init_31 rfl (lv_at hl 0 rfl) ?_
  refine lv_iconst (v := 4) hx hb dX5_init_32 (by decide +kernel) ?_
  have hr_17c : 7 + 1 ≤ 11 := by decide +kernel
  have hr_17s : 63 + 4 ≤ 137 := by decide +kernel
  refine va_newa (atype := .long) (D := (dC, dI)) (ty := .long) (N' := 4) (a0 := (4, .inr (.inl (fun _ => 0)))) hx hb (hts (.arrayClass .long) (List.mem_cons_of_mem _ (List.mem_append_left _ (List.mem_of_getElem? (i := 12) rfl)))) rfl hK hP hD hS hA (fun _ => rfl) (by decide +kernel) (by decide +kernel) (by decide +kernel) hr_17c hr_17s dX5_init_33 (fun q_15 cA_16 H hK hP hD hS => ?_)
  have hP : va_P (dC, dI) vwCl [(h0, .inr (5, [.int 0, .int 0, .null, .null, .ref q_1, .ref q_4, .ref q_12, .null, .null, .int 0, .int 0, .int 0, .int 0, .int 0, .int 0])), (q_1, .inl (cA_2, 4, .inr (.inr (.inr (.inr (fun _ => none)))))), (q_4, .inr (4, [.ref x_8, .ref x_9, .ref x_10, .ref x_11, .int 0])), (q_12, .inl (cA_13, 6, .inl (fun _ => 0))), (q_15, .inl (cA_16, 4, .inr (.inl (fun _ => 0))))] H := hP
  have hD : va_D A [(h0, .inr (5, [.int 0, .int 0, .null, .null, .ref q_1, .ref q_4, .ref q_12, .null, .null, .int 0, .int 0, .int 0, .int 0, .int 0, .int 0])), (q_1, .inl (cA_2, 4, .inr (.inr (.inr (.inr (fun _ => none)))))), (q_4, .inr (4, [.ref x_8, .ref x_9, .ref x_10, .ref x_11, .int 0])), (q_12, .inl (cA_13, 6, .inl (fun _ => 0))), (q_15, .inl (cA_16, 4, .inr (.inl (fun _ => 0))))] := hD
  have hK : va_K (dC, dI) vwCl [(cA_2, .object RX7), (cA_13, .int), (cA_16, .long)] s := hK
  refine W.widen (k := 8) (n := 67) (by decide +kernel) (by decide +kernel) ?_
  refine va_putF (D := (dC, dI)) (ci := 5) (v := .ref q_15) (ty := .array .long) (C := RX5) (T := TX5) (N := 15) hx hb hts (fun w h => List.mem_cons_of_mem _ (List.mem_append_right _ (List.mem_append_left _ h))) tyX5 tyX5_ok nmX5 hown hK hP hD hS 0 rfl rfl 7 (by decide +kernel) (hts (.fieldLink RX5 28 "SixNet$Node" "routerLows" "[J") (List.mem_cons_of_mem _ (List.mem_append_left _ (List.mem_of_getElem? (i := 13) rfl)))) (fun _ h9 => h9) rfl hin rfl (by decide +kernel) rfl rfl (Nat.le_of_ble_eq_true rfl) dX5_init_35 (fun H locs hP hD hS => ?_)
  have hP : va_P (dC, dI) vwCl [(h0, .inr (5, [.int 0, .int 0, .null, .null, .ref q_1, .ref q_4, .ref q_12, .ref q_15, .null, .int 0, .int 0, .int 0, .int 0, .int 0, .int 0])), (q_1, .inl (cA_2, 4, .inr (.inr (.inr (.inr (fun _ => none)))))), (q_4, .inr (4, [.ref x_8, .ref x_9, .ref x_10, .ref x_11, .int 0])), (q_12, .inl (cA_13, 6, .inl (fun _ => 0))), (q_15, .inl (cA_16, 4, .inr (.inl (fun _ => 0))))] H := hP
  have hD : va_D A [(h0, .inr (5, [.int 0, .int 0, .null, .null, .ref q_1, .ref q_4, .ref q_12, .ref q_15, .null, .int 0, .int 0, .int 0, .int 0, .int 0, .int 0])), (q_1, .inl (cA_2, 4, .inr (.inr (.inr (.inr (fun _ => none)))))), (q_4, .inr (4, [.ref x_8, .ref x_9, .ref x_10, .ref x_11, .int 0])), (q_12, .inl (cA_13, 6, .inl (fun _ => 0))), (q_15, .inl (cA_16, 4, .inr (.inl (fun _ => 0))))] := hD
  refine lv_aload_n hx hb dX5_init_38 rfl (lv_at hl 0 rfl) ?_
  refine lv_iconst (v := 4) hx hb dX5_init_39 (by decide +kernel) ?_
  have hr_20c : 8 + 1 ≤ 11 := by decide +kernel
  have hr_20s : 67 + 4 ≤ 137 := by decide +kernel
  refine va_newa (atype := .int) (D := (dC, dI)) (ty := .int) (N' := 4) (a0 := (4, .inl (fun _ => 0))) hx hb (hts (.arrayClass .int) (List.mem_cons_of_mem _ (List.mem_append_left _ (List.mem_of_getElem? (i := 10) rfl)))) rfl hK hP hD hS hA (fun _ => rfl) (by decide +kernel) (by decide +kernel) (by decide +kernel) hr_20c hr_20s dX5_init_40 (fun q_18 cA_19 H hK hP hD hS => ?_)
  have hP : va_P (dC, dI) vwCl [(h0, .inr (5, [.int 0, .int 0, .null, .null, .ref q_1, .ref q_4, .ref q_12, .ref q_15, .null, .int 0, .int 0, .int 0, .int 0, .int 0, .int 0])), (q_1, .inl (cA_2, 4, .inr (.inr (.inr (.inr (fun _ => none)))))), (q_4, .inr (4, [.ref x_8, .ref x_9, .ref x_10, .ref x_11, .int 0])), (q_12, .inl (cA_13, 6, .inl (fun _ => 0))), (q_15, .inl (cA_16, 4, .inr (.inl (fun _ => 0)))), (q_18, .inl (cA_19, 4, .inl (fun _ => 0)))] H := hP
  have hD : va_D A [(h0, .inr (5, [.int 0, .int 0, .null, .null, .ref q_1, .ref q_4, .ref q_12, .ref q_15, .null, .int 0, .int 0, .int 0, .int 0, .int 0, .int 0])), (q_1, .inl (cA_2, 4, .inr (.inr (.inr (.inr (fun _ => none)))))), (q_4, .inr (4, [.ref x_8, .ref x_9, .ref x_10, .ref x_11, .int 0])), (q_12, .inl (cA_13, 6, .inl (fun _ => 0))), (q_15, .inl (cA_16, 4, .inr (.inl (fun _ => 0)))), (q_18, .inl (cA_19, 4, .inl (fun _ => 0)))] := hD
  have hK : va_K (dC, dI) vwCl [(cA_2, .object RX7), (cA_13, .int), (cA_16, .long), (cA_19, .int)] s := hK
  refine W.widen (k := 9) (n := 71) (by decide +kernel) (by decide +kernel) ?_
  refine va_putF (D := (dC, dI)) (ci := 5) (v := .ref q_18) (ty := .array .int) (C := RX5) (T := TX5) (N := 15) hx hb hts (fun w h => List.mem_cons_of_mem _ (List.mem_append_right _ (List.mem_append_left _ h))) tyX5 tyX5_ok nmX5 hown hK hP hD hS 0 rfl rfl 8 (by decide +kernel) (hts (.fieldLink RX5 32 "SixNet$Node" "routerUntils" "[I") (List.mem_cons_of_mem _ (List.mem_append_left _ (List.mem_of_getElem? (i := 14) rfl)))) (fun _ h9 => h9) rfl hin rfl (by decide +kernel) rfl rfl (Nat.le_of_ble_eq_true rfl) dX5_init_42 (fun H locs hP hD hS => ?_)
  have hP : va_P (dC, dI) vwCl [(h0, .inr (5, [.int 0, .int 0, .null, .null, .ref q_1, .ref q_4, .ref q_12, .ref q_15, .ref q_18, .int 0, .int 0, .int 0, .int 0, .int 0, .int 0])), (q_1, .inl (cA_2, 4, .inr (.inr (.inr (.inr (fun _ => none)))))), (q_4, .inr (4, [.ref x_8, .ref x_9, .ref x_10, .ref x_11, .int 0])), (q_12, .inl (cA_13, 6, .inl (fun _ => 0))), (q_15, .inl (cA_16, 4, .inr (.inl (fun _ => 0)))), (q_18, .inl (cA_19, 4, .inl (fun _ => 0)))] H := hP
  have hD : va_D A [(h0, .inr (5, [.int 0, .int 0, .null, .null, .ref q_1, .ref q_4, .ref q_12, .ref q_15, .ref q_18, .int 0, .int 0, .int 0, .int 0, .int 0, .int 0])), (q_1, .inl (cA_2, 4, .inr (.inr (.inr (.inr (fun _ => none)))))), (q_4, .inr (4, [.ref x_8, .ref x_9, .ref x_10, .ref x_11, .int 0])), (q_12, .inl (cA_13, 6, .inl (fun _ => 0))), (q_15, .inl (cA_16, 4, .inr (.inl (fun _ => 0)))), (q_18, .inl (cA_19, 4, .inl (fun _ => 0)))] := hD
  refine lv_aload_n hx hb dX5_init_45 rfl (lv_at hl 0 rfl) ?_
  refine lv_iload_n hx hb dX5_init_46 rfl (lv_at hl 1 rfl) ?_
  refine va_putF (D := (dC, dI)) (ci := 5) (v := .int k) (ty := .int) (C := RX5) (T := TX5) (N := 15) hx hb hts (fun w h => List.mem_cons_of_mem _ (List.mem_append_right _ (List.mem_append_left _ h))) tyX5 tyX5_ok nmX5 hown hK hP hD hS 0 rfl rfl 0 (by decide +kernel) (hts (.fieldLink RX5 35 "SixNet$Node" "number" "I") (List.mem_cons_of_mem _ (List.mem_append_left _ (List.mem_of_getElem? (i := 15) rfl)))) (fun _ h9 => h9) rfl hin rfl (by decide +kernel) rfl rfl (Nat.le_of_ble_eq_true rfl) dX5_init_47 (fun H locs hP hD hS => ?_)
  have hP : va_P (dC, dI) vwCl [(h0, .inr (5, [.int k, .int 0, .null, .null, .ref q_1, .ref q_4, .ref q_12, .ref q_15, .ref q_18, .int 0, .int 0, .int 0, .int 0, .int 0, .int 0])), (q_1, .inl (cA_2, 4, .inr (.inr (.inr (.inr (fun _ => none)))))), (q_4, .inr (4, [.ref x_8, .ref x_9, .ref x_10, .ref x_11, .int 0])), (q_12, .inl (cA_13, 6, .inl (fun _ => 0))), (q_15, .inl (cA_16, 4, .inr (.inl (fun _ => 0)))), (q_18, .inl (cA_19, 4, .inl (fun _ => 0)))] H := hP
  have hD : va_D A [(h0, .inr (5, [.int k, .int 0, .null, .null, .ref q_1, .ref q_4, .ref q_12, .ref q_15, .ref q_18, .int 0, .int 0, .int 0, .int 0, .int 0, .int 0])), (q_1, .inl (cA_2, 4, .inr (.inr (.inr (.inr (fun _ => none)))))), (q_4, .inr (4, [.ref x_8, .ref x_9, .ref x_10, .ref x_11, .int 0])), (q_12, .inl (cA_13, 6, .inl (fun _ => 0))), (q_15, .inl (cA_16, 4, .inr (.inl (fun _ => 0)))), (q_18, .inl (cA_19, 4, .inl (fun _ => 0)))] := hD
  refine lv_aload_n hx hb dX5_init_50 rfl (lv_at hl 0 rfl) ?_
  refine lv_iload_n hx hb dX5_init_51 rfl (lv_at hl 2 rfl) ?_
  refine va_putF (D := (dC, dI)) (ci := 5) (v := .int 1) (ty := .boolean) (C := RX5) (T := TX5) (N := 15) hx hb hts (fun w h => List.mem_cons_of_mem _ (List.mem_append_right _ (List.mem_append_left _ h))) tyX5 tyX5_ok nmX5 hown hK hP hD hS 0 rfl rfl 1 (by decide +kernel) (hts (.fieldLink RX5 39 "SixNet$Node" "router" "Z") (List.mem_cons_of_mem _ (List.mem_append_left _ (List.mem_of_getElem? (i := 16) rfl)))) (fun _ h9 => h9) rfl hin rfl (by decide +kernel) (by decide +kernel) (by decide +kernel) (Nat.le_of_ble_eq_true rfl) dX5_init_52 (fun H locs hP hD hS => ?_)
  have hP : va_P (dC, dI) vwCl [(h0, .inr (5, [.int k, .int 1, .null, .null, .ref q_1, .ref q_4, .ref q_12, .ref q_15, .ref q_18, .int 0, .int 0, .int 0, .int 0, .int 0, .int 0])), (q_1, .inl (cA_2, 4, .inr (.inr (.inr (.inr (fun _ => none)))))), (q_4, .inr (4, [.ref x_8, .ref x_9, .ref x_10, .ref x_11, .int 0])), (q_12, .inl (cA_13, 6, .inl (fun _ => 0))), (q_15, .inl (cA_16, 4, .inr (.inl (fun _ => 0)))), (q_18, .inl (cA_19, 4, .inl (fun _ => 0)))] H := hP
  have hD : va_D A [(h0, .inr (5, [.int k, .int 1, .null, .null, .ref q_1, .ref q_4, .ref q_12, .ref q_15, .ref q_18, .int 0, .int 0, .int 0, .int 0, .int 0, .int 0])), (q_1, .inl (cA_2, 4, .inr (.inr (.inr (.inr (fun _ => none)))))), (q_4, .inr (4, [.ref x_8, .ref x_9, .ref x_10, .ref x_11, .int 0])), (q_12, .inl (cA_13, 6, .inl (fun _ => 0))), (q_15, .inl (cA_16, 4, .inr (.inl (fun _ => 0)))), (q_18, .inl (cA_19, 4, .inl (fun _ => 0)))] := hD
  refine lv_aload_n hx hb dX5_init_55 rfl (lv_at hl 0 rfl) ?_
  refine lv_iload_n hx hb dX5_init_56 rfl (lv_at hl 2 rfl) ?_
  refine lv_if_eq (tgt := 65) hx hb dX5_init_57 (by decide +kernel) (fun c_21 => ?_) (fun c_21 => ?_)
  · exact absurd c_21 (by decide +kernel)
  · refine lv_bipush (v := 10) hx hb dX5_init_60 (by decide +kernel) ?_
    refine lv_goto (tgt := 66) hx hb dX5_init_62 (by decide +kernel) ?_
    have hr_24c : 9 + 1 ≤ 11 := by decide +kernel
    have hr_24s : 71 + 10 ≤ 137 := by decide +kernel
    refine va_newq (D := (dC, dI)) (C := RX1) (N' := 10) hx hb hown (hts (.classLink RX5 43 RX1) (List.mem_cons_of_mem _ (List.mem_append_left _ (List.mem_of_getElem? (i := 17) rfl)))) hpr1 hK hP hD hS hA (by decide +kernel) (by decide +kernel) (by decide +kernel) hr_24c hr_24s dX5_init_66 (fun q_22 cA_23 H hK hP hD hS => ?_)
    have hP : va_P (dC, dI) vwCl [(h0, .inr (5, [.int k, .int 1, .null, .null, .ref q_1, .ref q_4, .ref q_12, .ref q_15, .ref q_18, .int 0, .int 0, .int 0, .int 0, .int 0, .int 0])), (q_1, .inl (cA_2, 4, .inr (.inr (.inr (.inr (fun _ => none)))))), (q_4, .inr (4, [.ref x_8, .ref x_9, .ref x_10, .ref x_11, .int 0])), (q_12, .inl (cA_13, 6, .inl (fun _ => 0))), (q_15, .inl (cA_16, 4, .inr (.inl (fun _ => 0)))), (q_18, .inl (cA_19, 4, .inl (fun _ => 0))), (q_22, .inl (cA_23, 10, .inr (.inr (.inr (.inr (fun _ => none))))))] H := hP
    have hD : va_D A [(h0, .inr (5, [.int k, .int 1, .null, .null, .ref q_1, .ref q_4, .ref q_12, .ref q_15, .ref q_18, .int 0, .int 0, .int 0, .int 0, .int 0, .int 0])), (q_1, .inl (cA_2, 4, .inr (.inr (.inr (.inr (fun _ => none)))))), (q_4, .inr (4, [.ref x_8, .ref x_9, .ref x_10, .ref x_11, .int 0])), (q_12, .inl (cA_13, 6, .inl (fun _ => 0))), (q_15, .inl (cA_16, 4, .inr (.inl (fun _ => 0)))), (q_18, .inl (cA_19, 4, .inl (fun _ => 0))), (q_22, .inl (cA_23, 10, .inr (.inr (.inr (.inr (fun _ => none))))))] := hD
    have hK : va_K (dC, dI) vwCl [(cA_2, .object RX7), (cA_13, .int), (cA_16, .long), (cA_19, .int), (cA_23, .object RX1)] s := hK
    refine W.widen (k := 10) (n := 81) (by decide +kernel) (by decide +kernel) ?_
    refine va_putF (D := (dC, dI)) (ci := 5) (v := .ref q_22) (ty := .array (.object "SixNet$Face")) (C := RX5) (T := TX5) (N := 15) hx hb hts (fun w h => List.mem_cons_of_mem _ (List.mem_append_right _ (List.mem_append_left _ h))) tyX5 tyX5_ok nmX5 hown hK hP hD hS 0 rfl rfl 2 (by decide +kernel) (hts (.fieldLink RX5 45 "SixNet$Node" "faces" "[LSixNet$Face;") (List.mem_cons_of_mem _ (List.mem_append_left _ (List.mem_of_getElem? (i := 18) rfl)))) (fun _ h9 => h9) rfl hin rfl (by decide +kernel) rfl rfl (Nat.le_of_ble_eq_true rfl) dX5_init_69 (fun H locs hP hD hS => ?_)
    have hP : va_P (dC, dI) vwCl [(h0, .inr (5, [.int k, .int 1, .ref q_22, .null, .ref q_1, .ref q_4, .ref q_12, .ref q_15, .ref q_18, .int 0, .int 0, .int 0, .int 0, .int 0, .int 0])), (q_1, .inl (cA_2, 4, .inr (.inr (.inr (.inr (fun _ => none)))))), (q_4, .inr (4, [.ref x_8, .ref x_9, .ref x_10, .ref x_11, .int 0])), (q_12, .inl (cA_13, 6, .inl (fun _ => 0))), (q_15, .inl (cA_16, 4, .inr (.inl (fun _ => 0)))), (q_18, .inl (cA_19, 4, .inl (fun _ => 0))), (q_22, .inl (cA_23, 10, .inr (.inr (.inr (.inr (fun _ => none))))))] H := hP
    have hD : va_D A [(h0, .inr (5, [.int k, .int 1, .ref q_22, .null, .ref q_1, .ref q_4, .ref q_12, .ref q_15, .ref q_18, .int 0, .int 0, .int 0, .int 0, .int 0, .int 0])), (q_1, .inl (cA_2, 4, .inr (.inr (.inr (.inr (fun _ => none)))))), (q_4, .inr (4, [.ref x_8, .ref x_9, .ref x_10, .ref x_11, .int 0])), (q_12, .inl (cA_13, 6, .inl (fun _ => 0))), (q_15, .inl (cA_16, 4, .inr (.inl (fun _ => 0)))), (q_18, .inl (cA_19, 4, .inl (fun _ => 0))), (q_22, .inl (cA_23, 10, .inr (.inr (.inr (.inr (fun _ => none))))))] := hD
    refine lv_aload_n hx hb dX5_init_72 rfl (lv_at hl 0 rfl) ?_
    refine lv_iload_n hx hb dX5_init_73 rfl (lv_at hl 2 rfl) ?_
    refine lv_if_eq (tgt := 82) hx hb dX5_init_74 (by decide +kernel) (fun c_25 => ?_) (fun c_25 => ?_)
    · exact absurd c_25 (by decide +kernel)
    · refine lv_bipush (v := 56) hx hb dX5_init_77 (by decide +kernel) ?_
      refine lv_goto (tgt := 83) hx hb dX5_init_79 (by decide +kernel) ?_
      have hr_28c : 10 + 1 ≤ 11 := by decide +kernel
      have hr_28s : 81 + 56 ≤ 137 := by decide +kernel
      refine va_newq (D := (dC, dI)) (C := RX8) (N' := 56) hx hb hown (hts (.classLink RX5 49 RX8) (List.mem_cons_of_mem _ (List.mem_append_left _ (List.mem_of_getElem? (i := 19) rfl)))) hpr2 hK hP hD hS hA (by decide +kernel) (by decide +kernel) (by decide +kernel) hr_28c hr_28s dX5_init_83 (fun q_26 cA_27 H hK hP hD hS => ?_)
      have hP : va_P (dC, dI) vwCl [(h0, .inr (5, [.int k, .int 1, .ref q_22, .null, .ref q_1, .ref q_4, .ref q_12, .ref q_15, .ref q_18, .int 0, .int 0, .int 0, .int 0, .int 0, .int 0])), (q_1, .inl (cA_2, 4, .inr (.inr (.inr (.inr (fun _ => none)))))), (q_4, .inr (4, [.ref x_8, .ref x_9, .ref x_10, .ref x_11, .int 0])), (q_12, .inl (cA_13, 6, .inl (fun _ => 0))), (q_15, .inl (cA_16, 4, .inr (.inl (fun _ => 0)))), (q_18, .inl (cA_19, 4, .inl (fun _ => 0))), (q_22, .inl (cA_23, 10, .inr (.inr (.inr (.inr (fun _ => none)))))), (q_26, .inl (cA_27, 56, .inr (.inr (.inr (.inr (fun _ => none))))))] H := hP
      have hD : va_D A [(h0, .inr (5, [.int k, .int 1, .ref q_22, .null, .ref q_1, .ref q_4, .ref q_12, .ref q_15, .ref q_18, .int 0, .int 0, .int 0, .int 0, .int 0, .int 0])), (q_1, .inl (cA_2, 4, .inr (.inr (.inr (.inr (fun _ => none)))))), (q_4, .inr (4, [.ref x_8, .ref x_9, .ref x_10, .ref x_11, .int 0])), (q_12, .inl (cA_13, 6, .inl (fun _ => 0))), (q_15, .inl (cA_16, 4, .inr (.inl (fun _ => 0)))), (q_18, .inl (cA_19, 4, .inl (fun _ => 0))), (q_22, .inl (cA_23, 10, .inr (.inr (.inr (.inr (fun _ => none)))))), (q_26, .inl (cA_27, 56, .inr (.inr (.inr (.inr (fun _ => none))))))] := hD
      have hK : va_K (dC, dI) vwCl [(cA_2, .object RX7), (cA_13, .int), (cA_16, .long), (cA_19, .int), (cA_23, .object RX1), (cA_27, .object RX8)] s := hK
      refine W.widen (k := 11) (n := 137) (by decide +kernel) (by decide +kernel) ?_
      refine va_putF (D := (dC, dI)) (ci := 5) (v := .ref q_26) (ty := .array (.object "SixNet$Route")) (C := RX5) (T := TX5) (N := 15) hx hb hts (fun w h => List.mem_cons_of_mem _ (List.mem_append_right _ (List.mem_append_left _ h))) tyX5 tyX5_ok nmX5 hown hK hP hD hS 0 rfl rfl 3 (by decide +kernel) (hts (.fieldLink RX5 51 "SixNet$Node" "routes" "[LSixNet$Route;") (List.mem_cons_of_mem _ (List.mem_append_left _ (List.mem_of_getElem? (i := 20) rfl)))) (fun _ h9 => h9) rfl hin rfl (by decide +kernel) rfl rfl (Nat.le_of_ble_eq_true rfl) dX5_init_86 (fun H locs hP hD hS => ?_)
      have hP : va_P (dC, dI) vwCl [(h0, .inr (5, [.int k, .int 1, .ref q_22, .ref q_26, .ref q_1, .ref q_4, .ref q_12, .ref q_15, .ref q_18, .int 0, .int 0, .int 0, .int 0, .int 0, .int 0])), (q_1, .inl (cA_2, 4, .inr (.inr (.inr (.inr (fun _ => none)))))), (q_4, .inr (4, [.ref x_8, .ref x_9, .ref x_10, .ref x_11, .int 0])), (q_12, .inl (cA_13, 6, .inl (fun _ => 0))), (q_15, .inl (cA_16, 4, .inr (.inl (fun _ => 0)))), (q_18, .inl (cA_19, 4, .inl (fun _ => 0))), (q_22, .inl (cA_23, 10, .inr (.inr (.inr (.inr (fun _ => none)))))), (q_26, .inl (cA_27, 56, .inr (.inr (.inr (.inr (fun _ => none))))))] H := hP
      have hD : va_D A [(h0, .inr (5, [.int k, .int 1, .ref q_22, .ref q_26, .ref q_1, .ref q_4, .ref q_12, .ref q_15, .ref q_18, .int 0, .int 0, .int 0, .int 0, .int 0, .int 0])), (q_1, .inl (cA_2, 4, .inr (.inr (.inr (.inr (fun _ => none)))))), (q_4, .inr (4, [.ref x_8, .ref x_9, .ref x_10, .ref x_11, .int 0])), (q_12, .inl (cA_13, 6, .inl (fun _ => 0))), (q_15, .inl (cA_16, 4, .inr (.inl (fun _ => 0)))), (q_18, .inl (cA_19, 4, .inl (fun _ => 0))), (q_22, .inl (cA_23, 10, .inr (.inr (.inr (.inr (fun _ => none)))))), (q_26, .inl (cA_27, 56, .inr (.inr (.inr (.inr (fun _ => none))))))] := hD
      have hP9 := hP.sub (ws' := [(h0, .inr (5, [.int k, .int 1, .ref q_22, .ref q_26, .ref q_1, .ref q_4, .ref q_12, .ref q_15, .ref q_18, .int 0, .int 0, .int 0, .int 0, .int 0, .int 0]))]) [0] rfl
      have hD9 := hD.sub (ws' := [(h0, .inr (5, [.int k, .int 1, .ref q_22, .ref q_26, .ref q_1, .ref q_4, .ref q_12, .ref q_15, .ref q_18, .int 0, .int 0, .int 0, .int 0, .int 0, .int 0]))]) [0] (by decide +kernel) rfl
      have hK9 := hK.sub (tys' := []) [] rfl
      exact W.vret hx hb hr (fun t ht hW => ⟨⟨(), rfl, trivial, q_22, q_26, q_1, q_4, q_12, q_15, q_18, by rw [ht]; exact hP9, va_K.moved hW.alike hK9, hD9⟩, hS.F ht⟩) hS.2.2 dX5_init_89
def wq_X3_init_o : List Cond := [.methodLink RX3 1 objectInit, .instanceMethod objectInit, .code objectInit ⟨#[0xb1]⟩ 1 none, .fieldLink RX3 7 "SixNet$Link" "up" "Z", .fieldLink RX3 13 "SixNet$Link" "number" "I", .fieldLink RX3 17 "SixNet$Link" "prefix" "J", .fieldLink RX3 21 "SixNet$Link" "mtu" "I"]
def wq_X3_init : List Cond := .code yX3_init cX3_init 5 none :: (wq_X3_init_o ++ (wsX30 ++ ([])))
set_option maxRecDepth 20000 in
theorem gt_wq_X3_init : GoodIn lw_tbl wq_X3_init := goodIn_ca (goodIn_p (.code yX3_init cX3_init 5 none :: wq_X3_init_o) [408, 154] (by decide +kernel) (by decide +kernel)) (goodIn_app gt_wsX30 (fun _ h => absurd h List.not_mem_nil))
set_option maxHeartbeats 4000000 in
set_option maxRecDepth 100000 in
theorem k_X3_init (l : Launch) (dC : Nat → ClassId) (dI : Nat → Nat → Nat) (sz : Nat) (h0 : Nat) (k : Int32) (xm : Int64) (j : Int32) : Met l yX3_init wq_X3_init ({ frames := 4, cells := 0, slots := 0, locals := 200 }) (va_Pc [.ref h0, .int k, .long xm, .int j] (fun U => U.heap.size = sz ∧ va_P (dC, dI) vwCl [(h0, .inr (3, [.int 0, .long 0, .int 0, .int 0]))] U.heap ∧ va_K (dC, dI) vwCl [] U ∧ va_D (fun _ => True) [(h0, .inr (3, [.int 0, .long 0, .int 0, .int 0]))])) (va_Qv (fun (_ : Unit) => True) (fun (_ : Unit) (t : State) => va_P (dC, dI) vwCl [(h0, .inr (3, [.int k, .long xm, .int j, .int 1]))] t.heap ∧ va_K (dC, dI) vwCl [] t ∧ va_D (va_A [(h0, .inr (3, [.int 0, .long 0, .int 0, .int 0]))] sz) [(h0, .inr (3, [.int k, .long xm, .int j, .int 1]))]) (va_A [(h0, .inr (3, [.int 0, .long 0, .int 0, .int 0]))] sz)) 0 0 (va_A [(h0, .inr (3, [.int 0, .long 0, .int 0, .int 0]))] sz) := by
  refine Met.ofW (cc := cX3_init) (maxL := 5) (ret := none) (by decide +kernel) rfl ?_
  intro p e s m args below meth c s₁ B hml hv
  obtain ⟨rfl, hsz, hP, hK, hD0⟩ := hv
  have hx := B.exec
  have hb := B.bytes
  have hr := B.returns
  have hts := atoms_spec (ws := wq_X3_init) B.pre
  have hown : s.vm.findClass RX3 = some m.cls := findClass_of_methodNamed B.named
  have hlocks := B.notSynchronized
  have hin : meth.name = "<init>" := (name_of_methodNamed B.named B.method).1
  subst hsz
  have hD := hD0.self (sz := s.heap.size)
  generalize hAe : va_A [(h0, .inr (3, [.int 0, .long 0, .int 0, .int 0]))] s.heap.size = A at hD ⊢
  have hA : ∀ q : Nat, s.heap.size ≤ q → A q := fun q h => by rw [← hAe]; exact Or.inr h
  have hS : va_S A s.heap s.heap [] := va_S.rf
  have hP : va_P (dC, dI) vwCl [(h0, .inr (3, [.int 0, .long 0, .int 0, .int 0]))] s.heap := hP
  have hl := lv_entry ([.ref h0, .int k, .long xm, .int j]) (n := 5) (Nat.le_of_ble_eq_true rfl)
  rw [lg_entry_eq]
  generalize (lg_sl ([.ref h0, .int k, .long xm, .int j]) ++ List.replicate (5 - (lg_sl ([.ref h0, .int k, .long xm, .int j])).length) Slot.unset).toArray = ls at hl ⊢
  have hl : lv_has ls 5 [(0, .ref h0), (1, .int k), (2, .long xm), (4, .int j)] := hl
  refine lv_aload_n hx hb dX3_init_0 rfl (lv_at hl 0 rfl) ?_
  refine W.objInit hx hb hown (hts (.methodLink RX3 1 objectInit) (List.mem_cons_of_mem _ (List.mem_append_left _ (List.mem_of_getElem? (i := 0) rfl)))) (hts (.instanceMethod objectInit) (List.mem_cons_of_mem _ (List.mem_append_left _ (List.mem_of_getElem? (i := 1) rfl)))) (hts (.code objectInit ⟨#[0xb1]⟩ 1 none) (List.mem_cons_of_mem _ (List.mem_append_left _ (List.mem_of_getElem? (i := 2) rfl)))) rfl (by rw [hml]; exact hl.1) rfl dX3_init_1 (Nat.le_of_ble_eq_true rfl) (Nat.le_of_ble_eq_true rfl) ?_
  refine W.eq (g2 := F0 m 4 ls []) rfl ?_
  refine lv_aload_n hx hb dX3_init_4 rfl (lv_at hl 0 rfl) ?_
  refine lv_iconst (v := 1) hx hb dX3_init_5 (by decide +kernel) ?_
  refine va_put (D := (dC, dI)) (ci := 3) (v := .int 1) (ty := .boolean) (C := RX3) (T := TX3) (N := 4) hx hb hts (fun w h => List.mem_cons_of_mem _ (List.mem_append_right _ (List.mem_append_left _ h))) tyX3 tyX3_ok nmX3 hown hK hP hD hS 0 rfl rfl 3 (by decide +kernel) (hts (.fieldLink RX3 7 "SixNet$Link" "up" "Z") (List.mem_cons_of_mem _ (List.mem_append_left _ (List.mem_of_getElem? (i := 3) rfl)))) (fun _ h9 => h9) rfl (by decide +kernel) (by decide +kernel) (by decide +kernel) (Nat.le_of_ble_eq_true rfl) dX3_init_6 (fun H locs hP hD hS => ?_)
  have hP : va_P (dC, dI) vwCl [(h0, .inr (3, [.int 0, .long 0, .int 0, .int 1]))] H := hP
  have hD : va_D A [(h0, .inr (3, [.int 0, .long 0, .int 0, .int 1]))] := hD
  refine lv_aload_n hx hb dX3_init_9 rfl (lv_at hl 0 rfl) ?_
  refine lv_iload_n hx hb dX3_init_10 rfl (lv_at hl 1 rfl) ?_
  refine va_putF (D := (dC, dI)) (ci := 3) (v := .int k) (ty := .int) (C := RX3) (T := TX3) (N := 4) hx hb hts (fun w h => List.mem_cons_of_mem _ (List.mem_append_right _ (List.mem_append_left _ h))) tyX3 tyX3_ok nmX3 hown hK hP hD hS 0 rfl rfl 0 (by decide +kernel) (hts (.fieldLink RX3 13 "SixNet$Link" "number" "I") (List.mem_cons_of_mem _ (List.mem_append_left _ (List.mem_of_getElem? (i := 4) rfl)))) (fun _ h9 => h9) rfl hin rfl (by decide +kernel) rfl rfl (Nat.le_of_ble_eq_true rfl) dX3_init_11 (fun H locs hP hD hS => ?_)
  have hP : va_P (dC, dI) vwCl [(h0, .inr (3, [.int k, .long 0, .int 0, .int 1]))] H := hP
  have hD : va_D A [(h0, .inr (3, [.int k, .long 0, .int 0, .int 1]))] := hD
  refine lv_aload_n hx hb dX3_init_14 rfl (lv_at hl 0 rfl) ?_
  refine lv_lload_n hx hb dX3_init_15 rfl (lv_at hl 2 rfl) ?_
  refine va_putF (D := (dC, dI)) (ci := 3) (v := .long xm) (ty := .long) (C := RX3) (T := TX3) (N := 4) hx hb hts (fun w h => List.mem_cons_of_mem _ (List.mem_append_right _ (List.mem_append_left _ h))) tyX3 tyX3_ok nmX3 hown hK hP hD hS 0 rfl rfl 1 (by decide +kernel) (hts (.fieldLink RX3 17 "SixNet$Link" "prefix" "J") (List.mem_cons_of_mem _ (List.mem_append_left _ (List.mem_of_getElem? (i := 5) rfl)))) (fun _ h9 => h9) rfl hin rfl (by decide +kernel) rfl rfl (Nat.le_of_ble_eq_true rfl) dX3_init_16 (fun H locs hP hD hS => ?_)
  have hP : va_P (dC, dI) vwCl [(h0, .inr (3, [.int k, .long xm, .int 0, .int 1]))] H := hP
  have hD : va_D A [(h0, .inr (3, [.int k, .long xm, .int 0, .int 1]))] := hD
  refine lv_aload_n hx hb dX3_init_19 rfl (lv_at hl 0 rfl) ?_
  refine lv_iload hx hb dX3_init_20 (lv_at hl 3 rfl) ?_
  refine va_putF (D := (dC, dI)) (ci := 3) (v := .int j) (ty := .int) (C := RX3) (T := TX3) (N := 4) hx hb hts (fun w h => List.mem_cons_of_mem _ (List.mem_append_right _ (List.mem_append_left _ h))) tyX3 tyX3_ok nmX3 hown hK hP hD hS 0 rfl rfl 2 (by decide +kernel) (hts (.fieldLink RX3 21 "SixNet$Link" "mtu" "I") (List.mem_cons_of_mem _ (List.mem_append_left _ (List.mem_of_getElem? (i := 6) rfl)))) (fun _ h9 => h9) rfl hin rfl (by decide +kernel) rfl rfl (Nat.le_of_ble_eq_true rfl) dX3_init_22 (fun H locs hP hD hS => ?_)
  have hP : va_P (dC, dI) vwCl [(h0, .inr (3, [.int k, .long xm, .int j, .int 1]))] H := hP
  have hD : va_D A [(h0, .inr (3, [.int k, .long xm, .int j, .int 1]))] := hD
  have hP9 := hP.sub (ws' := [(h0, .inr (3, [.int k, .long xm, .int j, .int 1]))]) [0] rfl
  have hD9 := hD.sub (ws' := [(h0, .inr (3, [.int k, .long xm, .int j, .int 1]))]) [0] (by decide +kernel) rfl
  have hK9 := hK.sub (tys' := []) [] rfl
  exact W.vret hx hb hr (fun t ht hW => ⟨⟨(), rfl, trivial, by rw [ht]; exact hP9, va_K.moved hW.alike hK9, hD9⟩, hS.F ht⟩) hS.2.2 dX3_init_25
def wq_X11_init_o : List Cond := [.methodLink RX11 3 objectInit, .instanceMethod objectInit, .code objectInit ⟨#[0xb1]⟩ 1 none, .classLink RX11 9 RX5, .fieldLink RX11 11 "SixNet" "nodes" "[LSixNet$Node;", .classLink RX11 15 RX3, .fieldLink RX11 17 "SixNet" "links" "[LSixNet$Link;", .classLink RX11 21 RX1, .fieldLink RX11 23 "SixNet" "faces" "[LSixNet$Face;", .classLink RX11 27 RX10, .fieldLink RX11 29 "SixNet" "talks" "[LSixNet$Talk;", .classLink RX11 33 RX9, .instantiable RX9 2, .initialized RX9, .methodLink RX11 35 yX9_init, .instanceMethod yX9_init, .fieldLink RX11 38 "SixNet" "flight" "LSixNet$Row;", .fieldLink RX11 42 "SixNet" "waits" "LSixNet$Row;", .classLink RX11 45 RX6, .fieldLink RX11 47 "SixNet" "failed" "[LSixNet$Packet;", .instantiable RX6 6, .initialized RX6, .methodLink RX11 51 yX6_init, .instanceMethod yX6_init, .fieldLink RX11 52 "SixNet" "draft" "LSixNet$Packet;", .classLink RX11 56 RX2, .instantiable RX2 3, .initialized RX2, .instanceMethod yX2_init, .fieldLink RX11 59 "SixNet" "hop" "LSixNet$Hop;", .fieldLink RX11 63 "SixNet" "arriving" "LSixNet$Packet;", .fieldLink RX11 66 "SixNet" "came" "LSixNet$Packet;", .fieldLink RX11 69 "SixNet" "going" "LSixNet$Packet;"]
def wq_X11_init : List Cond := .code yX11_init cX11_init 1 none :: (wq_X11_init_o ++ (wsX110 ++ (wsX90 ++ (wq_X9_init_96 ++ (wq_X9_init_48 ++ (wsX60 ++ (wq_X6_init_1514 ++ (wsX20 ++ (wq_X2_init ++ (wq_X6_init_3048 ++ ([])))))))))))
set_option maxRecDepth 20000 in
theorem gt_wq_X11_init : GoodIn lw_tbl wq_X11_init := goodIn_ca (goodIn_p (.code yX11_init cX11_init 1 none :: wq_X11_init_o) [151, 154] (by decide +kernel) (by decide +kernel)) (goodIn_app gt_wsX110 (goodIn_app gt_wsX90 (goodIn_app gt_wq_X9_init_96 (goodIn_app gt_wq_X9_init_48 (goodIn_app gt_wsX60 (goodIn_app gt_wq_X6_init_1514 (goodIn_app gt_wsX20 (goodIn_app gt_wq_X2_init (goodIn_app gt_wq_X6_init_3048 (fun _ h => absurd h List.not_mem_nil))))))))))
set_option maxRecDepth 20000 in
theorem wq_X11_init_g2 : GoodIn wq_X11_init wq_X9_init_96 := goodIn_sub (fun w h => List.mem_cons_of_mem _ (List.mem_append_right _ (List.mem_append_right _ (List.mem_append_right _ (List.mem_append_left _ h))))) (by decide +kernel)
set_option maxRecDepth 20000 in
theorem wq_X11_init_g3 : GoodIn wq_X11_init wq_X9_init_48 := goodIn_sub (fun w h => List.mem_cons_of_mem _ (List.mem_append_right _ (List.mem_append_right _ (List.mem_append_right _ (List.mem_append_right _ (List.mem_append_left _ h)))))) (by decide +kernel)
set_option maxRecDepth 20000 in
theorem wq_X11_init_g5 : GoodIn wq_X11_init wq_X6_init_1514 := goodIn_sub (fun w h => List.mem_cons_of_mem _ (List.mem_append_right _ (List.mem_append_right _ (List.mem_append_right _ (List.mem_append_right _ (List.mem_append_right _ (List.mem_append_right _ (List.mem_append_left _ h)))))))) (by decide +kernel)
set_option maxRecDepth 20000 in
theorem wq_X11_init_g7 : GoodIn wq_X11_init wq_X2_init := goodIn_sub (fun w h => List.mem_cons_of_mem _ (List.mem_append_right _ (List.mem_append_right _ (List.mem_append_right _ (List.mem_append_right _ (List.mem_append_right _ (List.mem_append_right _ (List.mem_append_right _ (List.mem_append_right _ (List.mem_append_left _ h)))))))))) (by decide +kernel)
set_option maxRecDepth 20000 in
theorem wq_X11_init_g8 : GoodIn wq_X11_init wq_X6_init_3048 := goodIn_sub (fun w h => List.mem_cons_of_mem _ (List.mem_append_right _ (List.mem_append_right _ (List.mem_append_right _ (List.mem_append_right _ (List.mem_append_right _ (List.mem_append_right _ (List.mem_append_right _ (List.mem_append_right _ (List.mem_append_right _ (List.mem_append_left _ h))))))))))) (by decide +kernel)
set_option maxHeartbeats 4000000 in
set_option maxRecDepth 100000 in
theorem k_X11_init (l : Launch) (dC : Nat → ClassId) (dI : Nat → Nat → Nat) (sz : Nat) (h0 : Nat) : Met l yX11_init wq_X11_init ({ frames := 8, cells := 18, slots := 9492, locals := 600 }) (va_Pc [.ref h0] (fun U => U.heap.size = sz ∧ va_P (dC, dI) vwCl [(h0, .inr (11, [.null, .null, .null, .null, .null, .null, .null, .null, .null, .int 0, .int 0, .int 0, .int 0, .null, .null, .null, .int 0, .int 0, .int 0, .int 0]))] U.heap ∧ va_K (dC, dI) vwCl [] U ∧ va_D (fun _ => True) [(h0, .inr (11, [.null, .null, .null, .null, .null, .null, .null, .null, .null, .int 0, .int 0, .int 0, .int 0, .null, .null, .null, .int 0, .int 0, .int 0, .int 0]))] ∧ va_AO RX5 U ∧ va_AO RX3 U ∧ va_AO RX1 U ∧ va_AO RX10 U ∧ va_AO RX6 U ∧ va_Nw (.methodLinkNest RX11 58 yX2_init "SixNet") U)) (va_Qv (fun (_ : Unit) => True) (fun (_ : Unit) (t : State) => ∃ (a0 : Nat), ∃ (a1 : Nat), ∃ (a2 : Nat), ∃ (a3 : Nat), ∃ (a4 : Nat), ∃ (a5 : Nat), ∃ (a6 : Nat), ∃ (a7 : Nat), ∃ (a8 : Nat), ∃ (a13 : Nat), ∃ (a14 : Nat), ∃ (a15 : Nat), ∃ (cN : ClassId), ∃ (cL : ClassId), ∃ (y0 : Nat), ∃ (y1 : Nat), va_P (dC, dI) vwCl [(h0, .inr (11, [.ref a0, .ref a1, .ref a2, .ref a3, .ref a4, .ref a5, .ref a6, .ref a7, .ref a8, .int 0, .int 0, .int 0, .int 0, .ref a13, .ref a14, .ref a15, .int 0, .int 0, .int 0, .int 0])), (a0, .inl (cN, 12, .inr (.inr (.inr (.inr (fun _ => none)))))), (a1, .inl (cL, 10, .inr (.inr (.inr (.inr (fun _ => none)))))), (a4, .inr (9, [.ref y0, .int 0])), (a5, .inr (9, [.ref y1, .int 0]))] t.heap ∧ va_K (dC, dI) vwCl [(cN, .object RX5), (cL, .object RX3)] t ∧ va_D (va_A [(h0, .inr (11, [.null, .null, .null, .null, .null, .null, .null, .null, .null, .int 0, .int 0, .int 0, .int 0, .null, .null, .null, .int 0, .int 0, .int 0, .int 0]))] sz) [(h0, .inr (11, [.ref a0, .ref a1, .ref a2, .ref a3, .ref a4, .ref a5, .ref a6, .ref a7, .ref a8, .int 0, .int 0, .int 0, .int 0, .ref a13, .ref a14, .ref a15, .int 0, .int 0, .int 0, .int 0])), (a0, .inl (cN, 12, .inr (.inr (.inr (.inr (fun _ => none)))))), (a1, .inl (cL, 10, .inr (.inr (.inr (.inr (fun _ => none)))))), (a4, .inr (9, [.ref y0, .int 0])), (a5, .inr (9, [.ref y1, .int 0]))]) (va_A [(h0, .inr (11, [.null, .null, .null, .null, .null, .null, .null, .null, .null, .int 0, .int 0, .int 0, .int 0, .null, .null, .null, .int 0, .int 0, .int 0, .int 0]))] sz)) 18 9492 (va_A [(h0, .inr (11, [.null, .null, .null, .null, .null, .null, .null, .null, .null, .int 0, .int 0, .int 0, .int 0, .null, .null, .null, .int 0, .int 0, .int 0, .int 0]))] sz) := by
  refine Met.ofW (cc := cX11_init) (maxL := 1) (ret := none) (by decide +kernel) rfl ?_
  intro p e s m args below meth c s₁ B hml hv
  obtain ⟨rfl, hsz, hP, hK, hD0, hpr0, hpr1, hpr2, hpr3, hpr4, hpr5⟩ := hv
  have hx := B.exec
  have hb := B.bytes
  have hr := B.returns
  have hts := atoms_spec (ws := wq_X11_init) B.pre
  have hown : s.vm.findClass RX11 = some m.cls := findClass_of_methodNamed B.named
  have hlocks := B.notSynchronized
  have hin : meth.name = "<init>" := (name_of_methodNamed B.named B.method).1
  subst hsz
  have hD := hD0.self (sz := s.heap.size)
  generalize hAe : va_A [(h0, .inr (11, [.null, .null, .null, .null, .null, .null, .null, .null, .null, .int 0, .int 0, .int 0, .int 0, .null, .null, .null, .int 0, .int 0, .int 0, .int 0]))] s.heap.size = A at hD ⊢
  have hA : ∀ q : Nat, s.heap.size ≤ q → A q := fun q h => by rw [← hAe]; exact Or.inr h
  have hS : va_S A s.heap s.heap [] := va_S.rf
  have hP : va_P (dC, dI) vwCl [(h0, .inr (11, [.null, .null, .null, .null, .null, .null, .null, .null, .null, .int 0, .int 0, .int 0, .int 0, .null, .null, .null, .int 0, .int 0, .int 0, .int 0]))] s.heap := hP
  have hl := lv_entry ([.ref h0]) (n := 1) (Nat.le_of_ble_eq_true rfl)
  rw [lg_entry_eq]
  generalize (lg_sl ([.ref h0]) ++ List.replicate (1 - (lg_sl ([.ref h0])).length) Slot.unset).toArray = ls at hl ⊢
  have hl : lv_has ls 1 [(0, .ref h0)] := hl
  refine lv_aload_n hx hb dX11_init_0 rfl (lv_at hl 0 rfl) ?_
  refine W.objInit hx hb hown (hts (.methodLink RX11 3 objectInit) (List.mem_cons_of_mem _ (List.mem_append_left _ (List.mem_of_getElem? (i := 0) rfl)))) (hts (.instanceMethod objectInit) (List.mem_cons_of_mem _ (List.mem_append_left _ (List.mem_of_getElem? (i := 1) rfl)))) (hts (.code objectInit ⟨#[0xb1]⟩ 1 none) (List.mem_cons_of_mem _ (List.mem_append_left _ (List.mem_of_getElem? (i := 2) rfl)))) rfl (by rw [hml]; exact hl.1) rfl dX11_init_1 (Nat.le_of_ble_eq_true rfl) (Nat.le_of_ble_eq_true rfl) ?_
  refine W.eq (g2 := F0 m 4 ls []) rfl ?_
  refine lv_aload_n hx hb dX11_init_4 rfl (lv_at hl 0 rfl) ?_
  refine lv_bipush (v := 12) hx hb dX11_init_5 (by decide +kernel) ?_
  have hr_3c : 0 + 1 ≤ 18 := by decide +kernel
  have hr_3s : 0 + 12 ≤ 9492 := by decide +kernel
  refine va_newq (D := (dC, dI)) (C := RX5) (N' := 12) hx hb hown (hts (.classLink RX11 9 RX5) (List.mem_cons_of_mem _ (List.mem_append_left _ (List.mem_of_getElem? (i := 3) rfl)))) hpr0 hK hP hD hS hA (by decide +kernel) (by decide +kernel) (by decide +kernel) hr_3c hr_3s dX11_init_7 (fun q_1 cA_2 H hK hP hD hS => ?_)
  have hP : va_P (dC, dI) vwCl [(h0, .inr (11, [.null, .null, .null, .null, .null, .null, .null, .null, .null, .int 0, .int 0, .int 0, .int 0, .null, .null, .null, .int 0, .int 0, .int 0, .int 0])), (q_1, .inl (cA_2, 12, .inr (.inr (.inr (.inr (fun _ => none))))))] H := hP
  have hD : va_D A [(h0, .inr (11, [.null, .null, .null, .null, .null, .null, .null, .null, .null, .int 0, .int 0, .int 0, .int 0, .null, .null, .null, .int 0, .int 0, .int 0, .int 0])), (q_1, .inl (cA_2, 12, .inr (.inr (.inr (.inr (fun _ => none))))))] := hD
  have hK : va_K (dC, dI) vwCl [(cA_2, .object RX5)] s := hK
  refine W.widen (k := 1) (n := 12) (by decide +kernel) (by decide +kernel) ?_
  refine va_putF (D := (dC, dI)) (ci := 11) (v := .ref q_1) (ty := .array (.object "SixNet$Node")) (C := RX11) (T := TX11) (N := 20) hx hb hts (fun w h => List.mem_cons_of_mem _ (List.mem_append_right _ (List.mem_append_left _ h))) tyX11 tyX11_ok nmX11 hown hK hP hD hS 0 rfl rfl 0 (by decide +kernel) (hts (.fieldLink RX11 11 "SixNet" "nodes" "[LSixNet$Node;") (List.mem_cons_of_mem _ (List.mem_append_left _ (List.mem_of_getElem? (i := 4) rfl)))) (fun _ h9 => h9) rfl hin rfl (by decide +kernel) rfl rfl (Nat.le_of_ble_eq_true rfl) dX11_init_10 (fun H locs hP hD hS => ?_)
  have hP : va_P (dC, dI) vwCl [(h0, .inr (11, [.ref q_1, .null, .null, .null, .null, .null, .null, .null, .null, .int 0, .int 0, .int 0, .int 0, .null, .null, .null, .int 0, .int 0, .int 0, .int 0])), (q_1, .inl (cA_2, 12, .inr (.inr (.inr (.inr (fun _ => none))))))] H := hP
  have hD : va_D A [(h0, .inr (11, [.ref q_1, .null, .null, .null, .null, .null, .null, .null, .null, .int 0, .int 0, .int 0, .int 0, .null, .null, .null, .int 0, .int 0, .int 0, .int 0])), (q_1, .inl (cA_2, 12, .inr (.inr (.inr (.inr (fun _ => none))))))] := hD
  refine lv_aload_n hx hb dX11_init_13 rfl (lv_at hl 0 rfl) ?_
  refine lv_bipush (v := 10) hx hb dX11_init_14 (by decide +kernel) ?_
  have hr_6c : 1 + 1 ≤ 18 := by decide +kernel
  have hr_6s : 12 + 10 ≤ 9492 := by decide +kernel
  refine va_newq (D := (dC, dI)) (C := RX3) (N' := 10) hx hb hown (hts (.classLink RX11 15 RX3) (List.mem_cons_of_mem _ (List.mem_append_left _ (List.mem_of_getElem? (i := 5) rfl)))) hpr1 hK hP hD hS hA (by decide +kernel) (by decide +kernel) (by decide +kernel) hr_6c hr_6s dX11_init_16 (fun q_4 cA_5 H hK hP hD hS => ?_)
  have hP : va_P (dC, dI) vwCl [(h0, .inr (11, [.ref q_1, .null, .null, .null, .null, .null, .null, .null, .null, .int 0, .int 0, .int 0, .int 0, .null, .null, .null, .int 0, .int 0, .int 0, .int 0])), (q_1, .inl (cA_2, 12, .inr (.inr (.inr (.inr (fun _ => none)))))), (q_4, .inl (cA_5, 10, .inr (.inr (.inr (.inr (fun _ => none))))))] H := hP
  have hD : va_D A [(h0, .inr (11, [.ref q_1, .null, .null, .null, .null, .null, .null, .null, .null, .int 0, .int 0, .int 0, .int 0, .null, .null, .null, .int 0, .int 0, .int 0, .int 0])), (q_1, .inl (cA_2, 12, .inr (.inr (.inr (.inr (fun _ => none)))))), (q_4, .inl (cA_5, 10, .inr (.inr (.inr (.inr (fun _ => none))))))] := hD
  have hK : va_K (dC, dI) vwCl [(cA_2, .object RX5), (cA_5, .object RX3)] s := hK
  refine W.widen (k := 2) (n := 22) (by decide +kernel) (by decide +kernel) ?_
  refine va_putF (D := (dC, dI)) (ci := 11) (v := .ref q_4) (ty := .array (.object "SixNet$Link")) (C := RX11) (T := TX11) (N := 20) hx hb hts (fun w h => List.mem_cons_of_mem _ (List.mem_append_right _ (List.mem_append_left _ h))) tyX11 tyX11_ok nmX11 hown hK hP hD hS 0 rfl rfl 1 (by decide +kernel) (hts (.fieldLink RX11 17 "SixNet" "links" "[LSixNet$Link;") (List.mem_cons_of_mem _ (List.mem_append_left _ (List.mem_of_getElem? (i := 6) rfl)))) (fun _ h9 => h9) rfl hin rfl (by decide +kernel) rfl rfl (Nat.le_of_ble_eq_true rfl) dX11_init_19 (fun H locs hP hD hS => ?_)
  have hP : va_P (dC, dI) vwCl [(h0, .inr (11, [.ref q_1, .ref q_4, .null, .null, .null, .null, .null, .null, .null, .int 0, .int 0, .int 0, .int 0, .null, .null, .null, .int 0, .int 0, .int 0, .int 0])), (q_1, .inl (cA_2, 12, .inr (.inr (.inr (.inr (fun _ => none)))))), (q_4, .inl (cA_5, 10, .inr (.inr (.inr (.inr (fun _ => none))))))] H := hP
  have hD : va_D A [(h0, .inr (11, [.ref q_1, .ref q_4, .null, .null, .null, .null, .null, .null, .null, .int 0, .int 0, .int 0, .int 0, .null, .null, .null, .int 0, .int 0, .int 0, .int 0])), (q_1, .inl (cA_2, 12, .inr (.inr (.inr (.inr (fun _ => none)))))), (q_4, .inl (cA_5, 10, .inr (.inr (.inr (.inr (fun _ => none))))))] := hD
  refine lv_aload_n hx hb dX11_init_22 rfl (lv_at hl 0 rfl) ?_
  refine lv_bipush (v := 24) hx hb dX11_init_23 (by decide +kernel) ?_
  have hr_9c : 2 + 1 ≤ 18 := by decide +kernel
  have hr_9s : 22 + 24 ≤ 9492 := by decide +kernel
  refine va_newq (D := (dC, dI)) (C := RX1) (N' := 24) hx hb hown (hts (.classLink RX11 21 RX1) (List.mem_cons_of_mem _ (List.mem_append_left _ (List.mem_of_getElem? (i := 7) rfl)))) hpr2 hK hP hD hS hA (by decide +kernel) (by decide +kernel) (by decide +kernel) hr_9c hr_9s dX11_init_25 (fun q_7 cA_8 H hK hP hD hS => ?_)
  have hP : va_P (dC, dI) vwCl [(h0, .inr (11, [.ref q_1, .ref q_4, .null, .null, .null, .null, .null, .null, .null, .int 0, .int 0, .int 0, .int 0, .null, .null, .null, .int 0, .int 0, .int 0, .int 0])), (q_1, .inl (cA_2, 12, .inr (.inr (.inr (.inr (fun _ => none)))))), (q_4, .inl (cA_5, 10, .inr (.inr (.inr (.inr (fun _ => none)))))), (q_7, .inl (cA_8, 24, .inr (.inr (.inr (.inr (fun _ => none))))))] H := hP
  have hD : va_D A [(h0, .inr (11, [.ref q_1, .ref q_4, .null, .null, .null, .null, .null, .null, .null, .int 0, .int 0, .int 0, .int 0, .null, .null, .null, .int 0, .int 0, .int 0, .int 0])), (q_1, .inl (cA_2, 12, .inr (.inr (.inr (.inr (fun _ => none)))))), (q_4, .inl (cA_5, 10, .inr (.inr (.inr (.inr (fun _ => none)))))), (q_7, .inl (cA_8, 24, .inr (.inr (.inr (.inr (fun _ => none))))))] := hD
  have hK : va_K (dC, dI) vwCl [(cA_2, .object RX5), (cA_5, .object RX3), (cA_8, .object RX1)] s := hK
  refine W.widen (k := 3) (n := 46) (by decide +kernel) (by decide +kernel) ?_
  refine va_putF (D := (dC, dI)) (ci := 11) (v := .ref q_7) (ty := .array (.object "SixNet$Face")) (C := RX11) (T := TX11) (N := 20) hx hb hts (fun w h => List.mem_cons_of_mem _ (List.mem_append_right _ (List.mem_append_left _ h))) tyX11 tyX11_ok nmX11 hown hK hP hD hS 0 rfl rfl 2 (by decide +kernel) (hts (.fieldLink RX11 23 "SixNet" "faces" "[LSixNet$Face;") (List.mem_cons_of_mem _ (List.mem_append_left _ (List.mem_of_getElem? (i := 8) rfl)))) (fun _ h9 => h9) rfl hin rfl (by decide +kernel) rfl rfl (Nat.le_of_ble_eq_true rfl) dX11_init_28 (fun H locs hP hD hS => ?_)
  have hP : va_P (dC, dI) vwCl [(h0, .inr (11, [.ref q_1, .ref q_4, .ref q_7, .null, .null, .null, .null, .null, .null, .int 0, .int 0, .int 0, .int 0, .null, .null, .null, .int 0, .int 0, .int 0, .int 0])), (q_1, .inl (cA_2, 12, .inr (.inr (.inr (.inr (fun _ => none)))))), (q_4, .inl (cA_5, 10, .inr (.inr (.inr (.inr (fun _ => none)))))), (q_7, .inl (cA_8, 24, .inr (.inr (.inr (.inr (fun _ => none))))))] H := hP
  have hD : va_D A [(h0, .inr (11, [.ref q_1, .ref q_4, .ref q_7, .null, .null, .null, .null, .null, .null, .int 0, .int 0, .int 0, .int 0, .null, .null, .null, .int 0, .int 0, .int 0, .int 0])), (q_1, .inl (cA_2, 12, .inr (.inr (.inr (.inr (fun _ => none)))))), (q_4, .inl (cA_5, 10, .inr (.inr (.inr (.inr (fun _ => none)))))), (q_7, .inl (cA_8, 24, .inr (.inr (.inr (.inr (fun _ => none))))))] := hD
  refine lv_aload_n hx hb dX11_init_31 rfl (lv_at hl 0 rfl) ?_
  refine lv_sipush (v := 144) hx hb dX11_init_32 (by decide +kernel) ?_
  have hr_12c : 3 + 1 ≤ 18 := by decide +kernel
  have hr_12s : 46 + 144 ≤ 9492 := by decide +kernel
  refine va_newq (D := (dC, dI)) (C := RX10) (N' := 144) hx hb hown (hts (.classLink RX11 27 RX10) (List.mem_cons_of_mem _ (List.mem_append_left _ (List.mem_of_getElem? (i := 9) rfl)))) hpr3 hK hP hD hS hA (by decide +kernel) (by decide +kernel) (by decide +kernel) hr_12c hr_12s dX11_init_35 (fun q_10 cA_11 H hK hP hD hS => ?_)
  have hP : va_P (dC, dI) vwCl [(h0, .inr (11, [.ref q_1, .ref q_4, .ref q_7, .null, .null, .null, .null, .null, .null, .int 0, .int 0, .int 0, .int 0, .null, .null, .null, .int 0, .int 0, .int 0, .int 0])), (q_1, .inl (cA_2, 12, .inr (.inr (.inr (.inr (fun _ => none)))))), (q_4, .inl (cA_5, 10, .inr (.inr (.inr (.inr (fun _ => none)))))), (q_7, .inl (cA_8, 24, .inr (.inr (.inr (.inr (fun _ => none)))))), (q_10, .inl (cA_11, 144, .inr (.inr (.inr (.inr (fun _ => none))))))] H := hP
  have hD : va_D A [(h0, .inr (11, [.ref q_1, .ref q_4, .ref q_7, .null, .null, .null, .null, .null, .null, .int 0, .int 0, .int 0, .int 0, .null, .null, .null, .int 0, .int 0, .int 0, .int 0])), (q_1, .inl (cA_2, 12, .inr (.inr (.inr (.inr (fun _ => none)))))), (q_4, .inl (cA_5, 10, .inr (.inr (.inr (.inr (fun _ => none)))))), (q_7, .inl (cA_8, 24, .inr (.inr (.inr (.inr (fun _ => none)))))), (q_10, .inl (cA_11, 144, .inr (.inr (.inr (.inr (fun _ => none))))))] := hD
  have hK : va_K (dC, dI) vwCl [(cA_2, .object RX5), (cA_5, .object RX3), (cA_8, .object RX1), (cA_11, .object RX10)] s := hK
  refine W.widen (k := 4) (n := 190) (by decide +kernel) (by decide +kernel) ?_
  refine va_putF (D := (dC, dI)) (ci := 11) (v := .ref q_10) (ty := .array (.object "SixNet$Talk")) (C := RX11) (T := TX11) (N := 20) hx hb hts (fun w h => List.mem_cons_of_mem _ (List.mem_append_right _ (List.mem_append_left _ h))) tyX11 tyX11_ok nmX11 hown hK hP hD hS 0 rfl rfl 3 (by decide +kernel) (hts (.fieldLink RX11 29 "SixNet" "talks" "[LSixNet$Talk;") (List.mem_cons_of_mem _ (List.mem_append_left _ (List.mem_of_getElem? (i := 10) rfl)))) (fun _ h9 => h9) rfl hin rfl (by decide +kernel) rfl rfl (Nat.le_of_ble_eq_true rfl) dX11_init_38 (fun H locs hP hD hS => ?_)
  have hP : va_P (dC, dI) vwCl [(h0, .inr (11, [.ref q_1, .ref q_4, .ref q_7, .ref q_10, .null, .null, .null, .null, .null, .int 0, .int 0, .int 0, .int 0, .null, .null, .null, .int 0, .int 0, .int 0, .int 0])), (q_1, .inl (cA_2, 12, .inr (.inr (.inr (.inr (fun _ => none)))))), (q_4, .inl (cA_5, 10, .inr (.inr (.inr (.inr (fun _ => none)))))), (q_7, .inl (cA_8, 24, .inr (.inr (.inr (.inr (fun _ => none)))))), (q_10, .inl (cA_11, 144, .inr (.inr (.inr (.inr (fun _ => none))))))] H := hP
  have hD : va_D A [(h0, .inr (11, [.ref q_1, .ref q_4, .ref q_7, .ref q_10, .null, .null, .null, .null, .null, .int 0, .int 0, .int 0, .int 0, .null, .null, .null, .int 0, .int 0, .int 0, .int 0])), (q_1, .inl (cA_2, 12, .inr (.inr (.inr (.inr (fun _ => none)))))), (q_4, .inl (cA_5, 10, .inr (.inr (.inr (.inr (fun _ => none)))))), (q_7, .inl (cA_8, 24, .inr (.inr (.inr (.inr (fun _ => none)))))), (q_10, .inl (cA_11, 144, .inr (.inr (.inr (.inr (fun _ => none))))))] := hD
  refine lv_aload_n hx hb dX11_init_41 rfl (lv_at hl 0 rfl) ?_
  have hr_14c : 4 + 1 ≤ 18 := by decide +kernel
  have hr_14s : 190 + 2 ≤ 9492 := by decide +kernel
  refine va_new (ci := 9) (fs := [.null, .int 0]) (C := RX9) (T := TX9) (N := 2) hx hb hts (fun w h => List.mem_cons_of_mem _ (List.mem_append_right _ (List.mem_append_right _ (List.mem_append_left _ h)))) tyX9 tyX9_ok hown (hts (.classLink RX11 33 RX9) (List.mem_cons_of_mem _ (List.mem_append_left _ (List.mem_of_getElem? (i := 11) rfl)))) (hts (.instantiable RX9 2) (List.mem_cons_of_mem _ (List.mem_append_left _ (List.mem_of_getElem? (i := 12) rfl)))) (hts (.initialized RX9) (List.mem_cons_of_mem _ (List.mem_append_left _ (List.mem_of_getElem? (i := 13) rfl)))) hK hP hD hS hA rfl (fun j hj => by rcases (show j = 0 ∨ j = 1 by omega) with rfl | rfl <;> rfl) hr_14c hr_14s dX11_init_42 (fun q_13 H hP hD hS => ?_)
  have hP : va_P (dC, dI) vwCl [(h0, .inr (11, [.ref q_1, .ref q_4, .ref q_7, .ref q_10, .null, .null, .null, .null, .null, .int 0, .int 0, .int 0, .int 0, .null, .null, .null, .int 0, .int 0, .int 0, .int 0])), (q_1, .inl (cA_2, 12, .inr (.inr (.inr (.inr (fun _ => none)))))), (q_4, .inl (cA_5, 10, .inr (.inr (.inr (.inr (fun _ => none)))))), (q_7, .inl (cA_8, 24, .inr (.inr (.inr (.inr (fun _ => none)))))), (q_10, .inl (cA_11, 144, .inr (.inr (.inr (.inr (fun _ => none)))))), (q_13, .inr (9, [.null, .int 0]))] H := hP
  have hD : va_D A [(h0, .inr (11, [.ref q_1, .ref q_4, .ref q_7, .ref q_10, .null, .null, .null, .null, .null, .int 0, .int 0, .int 0, .int 0, .null, .null, .null, .int 0, .int 0, .int 0, .int 0])), (q_1, .inl (cA_2, 12, .inr (.inr (.inr (.inr (fun _ => none)))))), (q_4, .inl (cA_5, 10, .inr (.inr (.inr (.inr (fun _ => none)))))), (q_7, .inl (cA_8, 24, .inr (.inr (.inr (.inr (fun _ => none)))))), (q_10, .inl (cA_11, 144, .inr (.inr (.inr (.inr (fun _ => none)))))), (q_13, .inr (9, [.null, .int 0]))] := hD
  refine W.widen (k := 5) (n := 192) (by decide +kernel) (by decide +kernel) ?_
  refine lv_dup hx hb dX11_init_45 rfl ?_
  refine lv_bipush (v := 96) hx hb dX11_init_46 (by decide +kernel) ?_
  have hPc := hP.sub (ws' := [(q_13, .inr (9, [.null, .int 0]))]) [5] rfl
  have hDc := hD.sub (ws' := [(q_13, .inr (9, [.null, .int 0]))]) [5] (by decide +kernel) rfl
  have hKc := hK.sub (tys' := []) [] rfl
  have hFc := va_free (wc := [(q_13, .inr (9, [.null, .int 0]))]) hD hS hA [5] rfl
  have hr_16c : 5 + 1 ≤ 18 := by decide +kernel
  have hr_16s : 192 + 96 ≤ 9492 := by decide +kernel
  refine va_callv (va_runI (As := [.int 96]) (rest := [.ref q_13, .ref h0]) ⟨hx, hb, hml, hown, hts⟩ (k_X9_init_96 l dC dI H.size q_13) (cwI 1 hts wq_X11_init_g2 rfl rfl rfl (hts (.initialized RX9) (List.mem_cons_of_mem _ (List.mem_append_left _ (List.mem_of_getElem? (i := 13) rfl)))) (hts (.methodLink RX11 35 yX9_init) (List.mem_cons_of_mem _ (List.mem_append_left _ (List.mem_of_getElem? (i := 14) rfl)))) (hts (.instanceMethod yX9_init) (List.mem_cons_of_mem _ (List.mem_append_left _ (List.mem_of_getElem? (i := 15) rfl)))) rfl (by decide +kernel) ⟨Nat.le_of_ble_eq_true rfl, Nat.le_of_ble_eq_true rfl⟩) ⟨fun a U g mk q => by obtain ⟨q0, q1, qP, qK, qD, z0⟩ := q; exact ⟨q0, q1, qP, va_K.moved (u := U) (U := U.calling g mk a) (Vm.Alike.refl U.vm) qK, qD, va_AO.moved (u := U) (U := U.calling g mk a) (Vm.Alike.refl U.vm) z0⟩, fun U hU hW => ⟨rfl, by rw [hU], by rw [hU]; exact hPc, va_K.moved hW.alike hKc, hDc.weaken (fun _ _ _ _ => trivial), va_AO.moved hW.alike hpr4⟩⟩ rfl rfl hl.1 rfl (lv_room (Nat.le_of_ble_eq_true rfl)) dX11_init_48 ⟨hr_16c, hr_16s⟩) hS (fun q _ h => hFc q h) hFc (fun u t H1 locs ht hvm hw hB hz1 hk1 hS => ?_)
  obtain ⟨x_17, hP1, hK1, hD1⟩ := hB
  rw [ht] at hP1
  obtain ⟨hP, hD⟩ := va_join (wr := [(h0, .inr (11, [.ref q_1, .ref q_4, .ref q_7, .ref q_10, .null, .null, .null, .null, .null, .int 0, .int 0, .int 0, .int 0, .null, .null, .null, .int 0, .int 0, .int 0, .int 0])), (q_1, .inl (cA_2, 12, .inr (.inr (.inr (.inr (fun _ => none)))))), (q_4, .inl (cA_5, 10, .inr (.inr (.inr (.inr (fun _ => none)))))), (q_7, .inl (cA_8, 24, .inr (.inr (.inr (.inr (fun _ => none)))))), (q_10, .inl (cA_11, 144, .inr (.inr (.inr (.inr (fun _ => none))))))]) (w1 := [(q_13, .inr (9, [.ref x_17, .int 0]))]) hP hD [5] [0, 1, 2, 3, 4] rfl rfl (by decide +kernel) (by decide +kernel) hk1 hFc hP1 hD1
  generalize H1 = H at hP hS ⊢
  have hP : va_P (dC, dI) vwCl [(h0, .inr (11, [.ref q_1, .ref q_4, .ref q_7, .ref q_10, .null, .null, .null, .null, .null, .int 0, .int 0, .int 0, .int 0, .null, .null, .null, .int 0, .int 0, .int 0, .int 0])), (q_1, .inl (cA_2, 12, .inr (.inr (.inr (.inr (fun _ => none)))))), (q_4, .inl (cA_5, 10, .inr (.inr (.inr (.inr (fun _ => none)))))), (q_7, .inl (cA_8, 24, .inr (.inr (.inr (.inr (fun _ => none)))))), (q_10, .inl (cA_11, 144, .inr (.inr (.inr (.inr (fun _ => none)))))), (q_13, .inr (9, [.ref x_17, .int 0]))] H := hP
  have hD : va_D A [(h0, .inr (11, [.ref q_1, .ref q_4, .ref q_7, .ref q_10, .null, .null, .null, .null, .null, .int 0, .int 0, .int 0, .int 0, .null, .null, .null, .int 0, .int 0, .int 0, .int 0])), (q_1, .inl (cA_2, 12, .inr (.inr (.inr (.inr (fun _ => none)))))), (q_4, .inl (cA_5, 10, .inr (.inr (.inr (.inr (fun _ => none)))))), (q_7, .inl (cA_8, 24, .inr (.inr (.inr (.inr (fun _ => none)))))), (q_10, .inl (cA_11, 144, .inr (.inr (.inr (.inr (fun _ => none)))))), (q_13, .inr (9, [.ref x_17, .int 0]))] := hD
  refine W.widen (k := 6) (n := 288) (by decide +kernel) (by decide +kernel) ?_
  refine va_putF (D := (dC, dI)) (ci := 11) (v := .ref q_13) (ty := .object "SixNet$Row") (C := RX11) (T := TX11) (N := 20) hx hb hts (fun w h => List.mem_cons_of_mem _ (List.mem_append_right _ (List.mem_append_left _ h))) tyX11 tyX11_ok nmX11 hown hK hP hD hS 0 rfl rfl 4 (by decide +kernel) (hts (.fieldLink RX11 38 "SixNet" "flight" "LSixNet$Row;") (List.mem_cons_of_mem _ (List.mem_append_left _ (List.mem_of_getElem? (i := 16) rfl)))) (fun _ h9 => h9) rfl hin rfl (by decide +kernel) rfl rfl (Nat.le_of_ble_eq_true rfl) dX11_init_51 (fun H locs hP hD hS => ?_)
  have hP : va_P (dC, dI) vwCl [(h0, .inr (11, [.ref q_1, .ref q_4, .ref q_7, .ref q_10, .ref q_13, .null, .null, .null, .null, .int 0, .int 0, .int 0, .int 0, .null, .null, .null, .int 0, .int 0, .int 0, .int 0])), (q_1, .inl (cA_2, 12, .inr (.inr (.inr (.inr (fun _ => none)))))), (q_4, .inl (cA_5, 10, .inr (.inr (.inr (.inr (fun _ => none)))))), (q_7, .inl (cA_8, 24, .inr (.inr (.inr (.inr (fun _ => none)))))), (q_10, .inl (cA_11, 144, .inr (.inr (.inr (.inr (fun _ => none)))))), (q_13, .inr (9, [.ref x_17, .int 0]))] H := hP
  have hD : va_D A [(h0, .inr (11, [.ref q_1, .ref q_4, .ref q_7, .ref q_10, .ref q_13, .null, .null, .null, .null, .int 0, .int 0, .int 0, .int 0, .null, .null, .null, .int 0, .int 0, .int 0, .int 0])), (q_1, .inl (cA_2, 12, .inr (.inr (.inr (.inr (fun _ => none)))))), (q_4, .inl (cA_5, 10, .inr (.inr (.inr (.inr (fun _ => none)))))), (q_7, .inl (cA_8, 24, .inr (.inr (.inr (.inr (fun _ => none)))))), (q_10, .inl (cA_11, 144, .inr (.inr (.inr (.inr (fun _ => none)))))), (q_13, .inr (9, [.ref x_17, .int 0]))] := hD
  refine lv_aload_n hx hb dX11_init_54 rfl (lv_at hl 0 rfl) ?_
  have hr_19c : 6 + 1 ≤ 18 := by decide +kernel
  have hr_19s : 288 + 2 ≤ 9492 := by decide +kernel
  refine va_new (ci := 9) (fs := [.null, .int 0]) (C := RX9) (T := TX9) (N := 2) hx hb hts (fun w h => List.mem_cons_of_mem _ (List.mem_append_right _ (List.mem_append_right _ (List.mem_append_left _ h)))) tyX9 tyX9_ok hown (hts (.classLink RX11 33 RX9) (List.mem_cons_of_mem _ (List.mem_append_left _ (List.mem_of_getElem? (i := 11) rfl)))) (hts (.instantiable RX9 2) (List.mem_cons_of_mem _ (List.mem_append_left _ (List.mem_of_getElem? (i := 12) rfl)))) (hts (.initialized RX9) (List.mem_cons_of_mem _ (List.mem_append_left _ (List.mem_of_getElem? (i := 13) rfl)))) hK hP hD hS hA rfl (fun j hj => by rcases (show j = 0 ∨ j = 1 by omega) with rfl | rfl <;> rfl) hr_19c hr_19s dX11_init_55 (fun q_18 H hP hD hS => ?_)
  have hP : va_P (dC, dI) vwCl [(h0, .inr (11, [.ref q_1, .ref q_4, .ref q_7, .ref q_10, .ref q_13, .null, .null, .null, .null, .int 0, .int 0, .int 0, .int 0, .null, .null, .null, .int 0, .int 0, .int 0, .int 0])), (q_1, .inl (cA_2, 12, .inr (.inr (.inr (.inr (fun _ => none)))))), (q_4, .inl (cA_5, 10, .inr (.inr (.inr (.inr (fun _ => none)))))), (q_7, .inl (cA_8, 24, .inr (.inr (.inr (.inr (fun _ => none)))))), (q_10, .inl (cA_11, 144, .inr (.inr (.inr (.inr (fun _ => none)))))), (q_13, .inr (9, [.ref x_17, .int 0])), (q_18, .inr (9, [.null, .int 0]))] H := hP
  have hD : va_D A [(h0, .inr (11, [.ref q_1, .ref q_4, .ref q_7, .ref q_10, .ref q_13, .null, .null, .null, .null, .int 0, .int 0, .int 0, .int 0, .null, .null, .null, .int 0, .int 0, .int 0, .int 0])), (q_1, .inl (cA_2, 12, .inr (.inr (.inr (.inr (fun _ => none)))))), (q_4, .inl (cA_5, 10, .inr (.inr (.inr (.inr (fun _ => none)))))), (q_7, .inl (cA_8, 24, .inr (.inr (.inr (.inr (fun _ => none)))))), (q_10, .inl (cA_11, 144, .inr (.inr (.inr (.inr (fun _ => none)))))), (q_13, .inr (9, [.ref x_17, .int 0])), (q_18, .inr (9, [.null, .int 0]))] := hD
  refine W.widen (k := 7) (n := 290) (by decide +kernel) (by decide +kernel) ?_
  refine lv_dup hx hb dX11_init_58 rfl ?_
  refine lv_bipush (v := 48) hx hb dX11_init_59 (by decide +kernel) ?_
  have hPc := hP.sub (ws' := [(q_18, .inr (9, [.null, .int 0]))]) [6] rfl
  have hDc := hD.sub (ws' := [(q_18, .inr (9, [.null, .int 0]))]) [6] (by decide +kernel) rfl
  have hKc := hK.sub (tys' := []) [] rfl
  have hFc := va_free (wc := [(q_18, .inr (9, [.null, .int 0]))]) hD hS hA [6] rfl
  have hr_21c : 7 + 1 ≤ 18 := by decide +kernel
  have hr_21s : 290 + 48 ≤ 9492 := by decide +kernel
  refine va_callv (va_runI (As := [.int 48]) (rest := [.ref q_18, .ref h0]) ⟨hx, hb, hml, hown, hts⟩ (k_X9_init_48 l dC dI H.size q_18) (cwI 1 hts wq_X11_init_g3 rfl rfl rfl (hts (.initialized RX9) (List.mem_cons_of_mem _ (List.mem_append_left _ (List.mem_of_getElem? (i := 13) rfl)))) (hts (.methodLink RX11 35 yX9_init) (List.mem_cons_of_mem _ (List.mem_append_left _ (List.mem_of_getElem? (i := 14) rfl)))) (hts (.instanceMethod yX9_init) (List.mem_cons_of_mem _ (List.mem_append_left _ (List.mem_of_getElem? (i := 15) rfl)))) rfl (by decide +kernel) ⟨Nat.le_of_ble_eq_true rfl, Nat.le_of_ble_eq_true rfl⟩) ⟨fun a U g mk q => by obtain ⟨q0, q1, qP, qK, qD, z0⟩ := q; exact ⟨q0, q1, qP, va_K.moved (u := U) (U := U.calling g mk a) (Vm.Alike.refl U.vm) qK, qD, va_AO.moved (u := U) (U := U.calling g mk a) (Vm.Alike.refl U.vm) z0⟩, fun U hU hW => ⟨rfl, by rw [hU], by rw [hU]; exact hPc, va_K.moved hW.alike hKc, hDc.weaken (fun _ _ _ _ => trivial), va_AO.moved hW.alike hpr4⟩⟩ rfl rfl hl.1 rfl (lv_room (Nat.le_of_ble_eq_true rfl)) dX11_init_61 ⟨hr_21c, hr_21s⟩) hS (fun q _ h => hFc q h) hFc (fun u t H1 locs ht hvm hw hB hz1 hk1 hS => ?_)
  obtain ⟨x_22, hP1, hK1, hD1⟩ := hB
  rw [ht] at hP1
  obtain ⟨hP, hD⟩ := va_join (wr := [(h0, .inr (11, [.ref q_1, .ref q_4, .ref q_7, .ref q_10, .ref q_13, .null, .null, .null, .null, .int 0, .int 0, .int 0, .int 0, .null, .null, .null, .int 0, .int 0, .int 0, .int 0])), (q_1, .inl (cA_2, 12, .inr (.inr (.inr (.inr (fun _ => none)))))), (q_4, .inl (cA_5, 10, .inr (.inr (.inr (.inr (fun _ => none)))))), (q_7, .inl (cA_8, 24, .inr (.inr (.inr (.inr (fun _ => none)))))), (q_10, .inl (cA_11, 144, .inr (.inr (.inr (.inr (fun _ => none)))))), (q_13, .inr (9, [.ref x_17, .int 0]))]) (w1 := [(q_18, .inr (9, [.ref x_22, .int 0]))]) hP hD [6] [0, 1, 2, 3, 4, 5] rfl rfl (by decide +kernel) (by decide +kernel) hk1 hFc hP1 hD1
  generalize H1 = H at hP hS ⊢
  have hP : va_P (dC, dI) vwCl [(h0, .inr (11, [.ref q_1, .ref q_4, .ref q_7, .ref q_10, .ref q_13, .null, .null, .null, .null, .int 0, .int 0, .int 0, .int 0, .null, .null, .null, .int 0, .int 0, .int 0, .int 0])), (q_1, .inl (cA_2, 12, .inr (.inr (.inr (.inr (fun _ => none)))))), (q_4, .inl (cA_5, 10, .inr (.inr (.inr (.inr (fun _ => none)))))), (q_7, .inl (cA_8, 24, .inr (.inr (.inr (.inr (fun _ => none)))))), (q_10, .inl (cA_11, 144, .inr (.inr (.inr (.inr (fun _ => none)))))), (q_13, .inr (9, [.ref x_17, .int 0])), (q_18, .inr (9, [.ref x_22, .int 0]))] H := hP
  have hD : va_D A [(h0, .inr (11, [.ref q_1, .ref q_4, .ref q_7, .ref q_10, .ref q_13, .null, .null, .null, .null, .int 0, .int 0, .int 0, .int 0, .null, .null, .null, .int 0, .int 0, .int 0, .int 0])), (q_1, .inl (cA_2, 12, .inr (.inr (.inr (.inr (fun _ => none)))))), (q_4, .inl (cA_5, 10, .inr (.inr (.inr (.inr (fun _ => none)))))), (q_7, .inl (cA_8, 24, .inr (.inr (.inr (.inr (fun _ => none)))))), (q_10, .inl (cA_11, 144, .inr (.inr (.inr (.inr (fun _ => none)))))), (q_13, .inr (9, [.ref x_17, .int 0])), (q_18, .inr (9, [.ref x_22, .int 0]))] := hD
  refine W.widen (k := 8) (n := 338) (by decide +kernel) (by decide +kernel) ?_
  refine va_putF (D := (dC, dI)) (ci := 11) (v := .ref q_18) (ty := .object "SixNet$Row") (C := RX11) (T := TX11) (N := 20) hx hb hts (fun w h => List.mem_cons_of_mem _ (List.mem_append_right _ (List.mem_append_left _ h))) tyX11 tyX11_ok nmX11 hown hK hP hD hS 0 rfl rfl 5 (by decide +kernel) (hts (.fieldLink RX11 42 "SixNet" "waits" "LSixNet$Row;") (List.mem_cons_of_mem _ (List.mem_append_left _ (List.mem_of_getElem? (i := 17) rfl)))) (fun _ h9 => h9) rfl hin rfl (by decide +kernel) rfl rfl (Nat.le_of_ble_eq_true rfl) dX11_init_64 (fun H locs hP hD hS => ?_)
  have hP : va_P (dC, dI) vwCl [(h0, .inr (11, [.ref q_1, .ref q_4, .ref q_7, .ref q_10, .ref q_13, .ref q_18, .null, .null, .null, .int 0, .int 0, .int 0, .int 0, .null, .null, .null, .int 0, .int 0, .int 0, .int 0])), (q_1, .inl (cA_2, 12, .inr (.inr (.inr (.inr (fun _ => none)))))), (q_4, .inl (cA_5, 10, .inr (.inr (.inr (.inr (fun _ => none)))))), (q_7, .inl (cA_8, 24, .inr (.inr (.inr (.inr (fun _ => none)))))), (q_10, .inl (cA_11, 144, .inr (.inr (.inr (.inr (fun _ => none)))))), (q_13, .inr (9, [.ref x_17, .int 0])), (q_18, .inr (9, [.ref x_22, .int 0]))] H := hP
  have hD : va_D A [(h0, .inr (11, [.ref q_1, .ref q_4, .ref q_7, .ref q_10, .ref q_13, .ref q_18, .null, .null, .null, .int 0, .int 0, .int 0, .int 0, .null, .null, .null, .int 0, .int 0, .int 0, .int 0])), (q_1, .inl (cA_2, 12, .inr (.inr (.inr (.inr (fun _ => none)))))), (q_4, .inl (cA_5, 10, .inr (.inr (.inr (.inr (fun _ => none)))))), (q_7, .inl (cA_8, 24, .inr (.inr (.inr (.inr (fun _ => none)))))), (q_10, .inl (cA_11, 144, .inr (.inr (.inr (.inr (fun _ => none)))))), (q_13, .inr (9, [.ref x_17, .int 0])), (q_18, .inr (9, [.ref x_22, .int 0]))] := hD
  refine lv_aload_n hx hb dX11_init_67 rfl (lv_at hl 0 rfl) ?_
  refine lv_iconst (v := 3) hx hb dX11_init_68 (by decide +kernel) ?_
  have hr_25c : 8 + 1 ≤ 18 := by decide +kernel
  have hr_25s : 338 + 3 ≤ 9492 := by decide +kernel
  refine va_newq (D := (dC, dI)) (C := RX6) (N' := 3) hx hb hown (hts (.classLink RX11 45 RX6) (List.mem_cons_of_mem _ (List.mem_append_left _ (List.mem_of_getElem? (i := 18) rfl)))) hpr4 hK hP hD hS hA (by decide +kernel) (by decide +kernel) (by decide +kernel) hr_25c hr_25s dX11_init_69 (fun q_23 cA_24 H hK hP hD hS => ?_)
  have hP : va_P (dC, dI) vwCl [(h0, .inr (11, [.ref q_1, .ref q_4, .ref q_7, .ref q_10, .ref q_13, .ref q_18, .null, .null, .null, .int 0, .int 0, .int 0, .int 0, .null, .null, .null, .int 0, .int 0, .int 0, .int 0])), (q_1, .inl (cA_2, 12, .inr (.inr (.inr (.inr (fun _ => none)))))), (q_4, .inl (cA_5, 10, .inr (.inr (.inr (.inr (fun _ => none)))))), (q_7, .inl (cA_8, 24, .inr (.inr (.inr (.inr (fun _ => none)))))), (q_10, .inl (cA_11, 144, .inr (.inr (.inr (.inr (fun _ => none)))))), (q_13, .inr (9, [.ref x_17, .int 0])), (q_18, .inr (9, [.ref x_22, .int 0])), (q_23, .inl (cA_24, 3, .inr (.inr (.inr (.inr (fun _ => none))))))] H := hP
  have hD : va_D A [(h0, .inr (11, [.ref q_1, .ref q_4, .ref q_7, .ref q_10, .ref q_13, .ref q_18, .null, .null, .null, .int 0, .int 0, .int 0, .int 0, .null, .null, .null, .int 0, .int 0, .int 0, .int 0])), (q_1, .inl (cA_2, 12, .inr (.inr (.inr (.inr (fun _ => none)))))), (q_4, .inl (cA_5, 10, .inr (.inr (.inr (.inr (fun _ => none)))))), (q_7, .inl (cA_8, 24, .inr (.inr (.inr (.inr (fun _ => none)))))), (q_10, .inl (cA_11, 144, .inr (.inr (.inr (.inr (fun _ => none)))))), (q_13, .inr (9, [.ref x_17, .int 0])), (q_18, .inr (9, [.ref x_22, .int 0])), (q_23, .inl (cA_24, 3, .inr (.inr (.inr (.inr (fun _ => none))))))] := hD
  have hK : va_K (dC, dI) vwCl [(cA_2, .object RX5), (cA_5, .object RX3), (cA_8, .object RX1), (cA_11, .object RX10), (cA_24, .object RX6)] s := hK
  refine W.widen (k := 9) (n := 341) (by decide +kernel) (by decide +kernel) ?_
  refine va_putF (D := (dC, dI)) (ci := 11) (v := .ref q_23) (ty := .array (.object "SixNet$Packet")) (C := RX11) (T := TX11) (N := 20) hx hb hts (fun w h => List.mem_cons_of_mem _ (List.mem_append_right _ (List.mem_append_left _ h))) tyX11 tyX11_ok nmX11 hown hK hP hD hS 0 rfl rfl 6 (by decide +kernel) (hts (.fieldLink RX11 47 "SixNet" "failed" "[LSixNet$Packet;") (List.mem_cons_of_mem _ (List.mem_append_left _ (List.mem_of_getElem? (i := 19) rfl)))) (fun _ h9 => h9) rfl hin rfl (by decide +kernel) rfl rfl (Nat.le_of_ble_eq_true rfl) dX11_init_72 (fun H locs hP hD hS => ?_)
  have hP : va_P (dC, dI) vwCl [(h0, .inr (11, [.ref q_1, .ref q_4, .ref q_7, .ref q_10, .ref q_13, .ref q_18, .ref q_23, .null, .null, .int 0, .int 0, .int 0, .int 0, .null, .null, .null, .int 0, .int 0, .int 0, .int 0])), (q_1, .inl (cA_2, 12, .inr (.inr (.inr (.inr (fun _ => none)))))), (q_4, .inl (cA_5, 10, .inr (.inr (.inr (.inr (fun _ => none)))))), (q_7, .inl (cA_8, 24, .inr (.inr (.inr (.inr (fun _ => none)))))), (q_10, .inl (cA_11, 144, .inr (.inr (.inr (.inr (fun _ => none)))))), (q_13, .inr (9, [.ref x_17, .int 0])), (q_18, .inr (9, [.ref x_22, .int 0])), (q_23, .inl (cA_24, 3, .inr (.inr (.inr (.inr (fun _ => none))))))] H := hP
  have hD : va_D A [(h0, .inr (11, [.ref q_1, .ref q_4, .ref q_7, .ref q_10, .ref q_13, .ref q_18, .ref q_23, .null, .null, .int 0, .int 0, .int 0, .int 0, .null, .null, .null, .int 0, .int 0, .int 0, .int 0])), (q_1, .inl (cA_2, 12, .inr (.inr (.inr (.inr (fun _ => none)))))), (q_4, .inl (cA_5, 10, .inr (.inr (.inr (.inr (fun _ => none)))))), (q_7, .inl (cA_8, 24, .inr (.inr (.inr (.inr (fun _ => none)))))), (q_10, .inl (cA_11, 144, .inr (.inr (.inr (.inr (fun _ => none)))))), (q_13, .inr (9, [.ref x_17, .int 0])), (q_18, .inr (9, [.ref x_22, .int 0])), (q_23, .inl (cA_24, 3, .inr (.inr (.inr (.inr (fun _ => none))))))] := hD
  refine lv_aload_n hx hb dX11_init_75 rfl (lv_at hl 0 rfl) ?_
  have hr_27c : 9 + 1 ≤ 18 := by decide +kernel
  have hr_27s : 341 + 6 ≤ 9492 := by decide +kernel
  refine va_new (ci := 6) (fs := [.null, .int 0, .int 0, .int 0, .int 0, .null]) (C := RX6) (T := TX6) (N := 6) hx hb hts (fun w h => List.mem_cons_of_mem _ (List.mem_append_right _ (List.mem_append_right _ (List.mem_append_right _ (List.mem_append_right _ (List.mem_append_right _ (List.mem_append_left _ h))))))) tyX6 tyX6_ok hown (hts (.classLink RX11 45 RX6) (List.mem_cons_of_mem _ (List.mem_append_left _ (List.mem_of_getElem? (i := 18) rfl)))) (hts (.instantiable RX6 6) (List.mem_cons_of_mem _ (List.mem_append_left _ (List.mem_of_getElem? (i := 20) rfl)))) (hts (.initialized RX6) (List.mem_cons_of_mem _ (List.mem_append_left _ (List.mem_of_getElem? (i := 21) rfl)))) hK hP hD hS hA rfl (fun j hj => by rcases (show j = 0 ∨ j = 1 ∨ j = 2 ∨ j = 3 ∨ j = 4 ∨ j = 5 by omega) with rfl | rfl | rfl | rfl | rfl | rfl <;> rfl) hr_27c hr_27s dX11_init_76 (fun q_26 H hP hD hS => ?_)
  have hP : va_P (dC, dI) vwCl [(h0, .inr (11, [.ref q_1, .ref q_4, .ref q_7, .ref q_10, .ref q_13, .ref q_18, .ref q_23, .null, .null, .int 0, .int 0, .int 0, .int 0, .null, .null, .null, .int 0, .int 0, .int 0, .int 0])), (q_1, .inl (cA_2, 12, .inr (.inr (.inr (.inr (fun _ => none)))))), (q_4, .inl (cA_5, 10, .inr (.inr (.inr (.inr (fun _ => none)))))), (q_7, .inl (cA_8, 24, .inr (.inr (.inr (.inr (fun _ => none)))))), (q_10, .inl (cA_11, 144, .inr (.inr (.inr (.inr (fun _ => none)))))), (q_13, .inr (9, [.ref x_17, .int 0])), (q_18, .inr (9, [.ref x_22, .int 0])), (q_23, .inl (cA_24, 3, .inr (.inr (.inr (.inr (fun _ => none)))))), (q_26, .inr (6, [.null, .int 0, .int 0, .int 0, .int 0, .null]))] H := hP
  have hD : va_D A [(h0, .inr (11, [.ref q_1, .ref q_4, .ref q_7, .ref q_10, .ref q_13, .ref q_18, .ref q_23, .null, .null, .int 0, .int 0, .int 0, .int 0, .null, .null, .null, .int 0, .int 0, .int 0, .int 0])), (q_1, .inl (cA_2, 12, .inr (.inr (.inr (.inr (fun _ => none)))))), (q_4, .inl (cA_5, 10, .inr (.inr (.inr (.inr (fun _ => none)))))), (q_7, .inl (cA_8, 24, .inr (.inr (.inr (.inr (fun _ => none)))))), (q_10, .inl (cA_11, 144, .inr (.inr (.inr (.inr (fun _ => none)))))), (q_13, .inr (9, [.ref x_17, .int 0])), (q_18, .inr (9, [.ref x_22, .int 0])), (q_23, .inl (cA_24, 3, .inr (.inr (.inr (.inr (fun _ => none)))))), (q_26, .inr (6, [.null, .int 0, .int 0, .int 0, .int 0, .null]))] := hD
  refine W.widen (k := 10) (n := 347) (by decide +kernel) (by decide +kernel) ?_
  refine lv_dup hx hb dX11_init_79 rfl ?_
  refine lv_sipush (v := 1514) hx hb dX11_init_80 (by decide +kernel) ?_
  have hPc := hP.sub (ws' := [(q_26, .inr (6, [.null, .int 0, .int 0, .int 0, .int 0, .null]))]) [8] rfl
  have hDc := hD.sub (ws' := [(q_26, .inr (6, [.null, .int 0, .int 0, .int 0, .int 0, .null]))]) [8] (by decide +kernel) rfl
  have hKc := hK.sub (tys' := []) [] rfl
  have hFc := va_free (wc := [(q_26, .inr (6, [.null, .int 0, .int 0, .int 0, .int 0, .null]))]) hD hS hA [8] rfl
  have hr_29c : 10 + 1 ≤ 18 := by decide +kernel
  have hr_29s : 347 + 1514 ≤ 9492 := by decide +kernel
  refine va_callv (va_runI (As := [.int 1514]) (rest := [.ref q_26, .ref h0]) ⟨hx, hb, hml, hown, hts⟩ (k_X6_init_1514 l dC dI H.size q_26) (cwI 1 hts wq_X11_init_g5 rfl rfl rfl (hts (.initialized RX6) (List.mem_cons_of_mem _ (List.mem_append_left _ (List.mem_of_getElem? (i := 21) rfl)))) (hts (.methodLink RX11 51 yX6_init) (List.mem_cons_of_mem _ (List.mem_append_left _ (List.mem_of_getElem? (i := 22) rfl)))) (hts (.instanceMethod yX6_init) (List.mem_cons_of_mem _ (List.mem_append_left _ (List.mem_of_getElem? (i := 23) rfl)))) rfl (by decide +kernel) ⟨Nat.le_of_ble_eq_true rfl, Nat.le_of_ble_eq_true rfl⟩) ⟨fun a U g mk q => by obtain ⟨q0, q1, qP, qK, qD⟩ := q; exact ⟨q0, q1, qP, va_K.moved (u := U) (U := U.calling g mk a) (Vm.Alike.refl U.vm) qK, qD⟩, fun U hU hW => ⟨rfl, by rw [hU], by rw [hU]; exact hPc, va_K.moved hW.alike hKc, hDc.weaken (fun _ _ _ _ => trivial)⟩⟩ rfl rfl hl.1 rfl (lv_room (Nat.le_of_ble_eq_true rfl)) dX11_init_83 ⟨hr_29c, hr_29s⟩) hS (fun q _ h => hFc q h) hFc (fun u t H1 locs ht hvm hw hB hz1 hk1 hS => ?_)
  obtain ⟨x_30, hP1, hK1, hD1⟩ := hB
  rw [ht] at hP1
  obtain ⟨hP, hD⟩ := va_join (wr := [(h0, .inr (11, [.ref q_1, .ref q_4, .ref q_7, .ref q_10, .ref q_13, .ref q_18, .ref q_23, .null, .null, .int 0, .int 0, .int 0, .int 0, .null, .null, .null, .int 0, .int 0, .int 0, .int 0])), (q_1, .inl (cA_2, 12, .inr (.inr (.inr (.inr (fun _ => none)))))), (q_4, .inl (cA_5, 10, .inr (.inr (.inr (.inr (fun _ => none)))))), (q_7, .inl (cA_8, 24, .inr (.inr (.inr (.inr (fun _ => none)))))), (q_10, .inl (cA_11, 144, .inr (.inr (.inr (.inr (fun _ => none)))))), (q_13, .inr (9, [.ref x_17, .int 0])), (q_18, .inr (9, [.ref x_22, .int 0])), (q_23, .inl (cA_24, 3, .inr (.inr (.inr (.inr (fun _ => none))))))]) (w1 := [(q_26, .inr (6, [.ref x_30, .int 0, .int 0, .int 0, .int 0, .null]))]) hP hD [8] [0, 1, 2, 3, 4, 5, 6, 7] rfl rfl (by decide +kernel) (by decide +kernel) hk1 hFc hP1 hD1
  generalize H1 = H at hP hS ⊢
  have hP : va_P (dC, dI) vwCl [(h0, .inr (11, [.ref q_1, .ref q_4, .ref q_7, .ref q_10, .ref q_13, .ref q_18, .ref q_23, .null, .null, .int 0, .int 0, .int 0, .int 0, .null, .null, .null, .int 0, .int 0, .int 0, .int 0])), (q_1, .inl (cA_2, 12, .inr (.inr (.inr (.inr (fun _ => none)))))), (q_4, .inl (cA_5, 10, .inr (.inr (.inr (.inr (fun _ => none)))))), (q_7, .inl (cA_8, 24, .inr (.inr (.inr (.inr (fun _ => none)))))), (q_10, .inl (cA_11, 144, .inr (.inr (.inr (.inr (fun _ => none)))))), (q_13, .inr (9, [.ref x_17, .int 0])), (q_18, .inr (9, [.ref x_22, .int 0])), (q_23, .inl (cA_24, 3, .inr (.inr (.inr (.inr (fun _ => none)))))), (q_26, .inr (6, [.ref x_30, .int 0, .int 0, .int 0, .int 0, .null]))] H := hP
  have hD : va_D A [(h0, .inr (11, [.ref q_1, .ref q_4, .ref q_7, .ref q_10, .ref q_13, .ref q_18, .ref q_23, .null, .null, .int 0, .int 0, .int 0, .int 0, .null, .null, .null, .int 0, .int 0, .int 0, .int 0])), (q_1, .inl (cA_2, 12, .inr (.inr (.inr (.inr (fun _ => none)))))), (q_4, .inl (cA_5, 10, .inr (.inr (.inr (.inr (fun _ => none)))))), (q_7, .inl (cA_8, 24, .inr (.inr (.inr (.inr (fun _ => none)))))), (q_10, .inl (cA_11, 144, .inr (.inr (.inr (.inr (fun _ => none)))))), (q_13, .inr (9, [.ref x_17, .int 0])), (q_18, .inr (9, [.ref x_22, .int 0])), (q_23, .inl (cA_24, 3, .inr (.inr (.inr (.inr (fun _ => none)))))), (q_26, .inr (6, [.ref x_30, .int 0, .int 0, .int 0, .int 0, .null]))] := hD
  refine W.widen (k := 11) (n := 1861) (by decide +kernel) (by decide +kernel) ?_
  refine va_putF (D := (dC, dI)) (ci := 11) (v := .ref q_26) (ty := .object "SixNet$Packet") (C := RX11) (T := TX11) (N := 20) hx hb hts (fun w h => List.mem_cons_of_mem _ (List.mem_append_right _ (List.mem_append_left _ h))) tyX11 tyX11_ok nmX11 hown hK hP hD hS 0 rfl rfl 7 (by decide +kernel) (hts (.fieldLink RX11 52 "SixNet" "draft" "LSixNet$Packet;") (List.mem_cons_of_mem _ (List.mem_append_left _ (List.mem_of_getElem? (i := 24) rfl)))) (fun _ h9 => h9) rfl hin rfl (by decide +kernel) rfl rfl (Nat.le_of_ble_eq_true rfl) dX11_init_86 (fun H locs hP hD hS => ?_)
  have hP : va_P (dC, dI) vwCl [(h0, .inr (11, [.ref q_1, .ref q_4, .ref q_7, .ref q_10, .ref q_13, .ref q_18, .ref q_23, .ref q_26, .null, .int 0, .int 0, .int 0, .int 0, .null, .null, .null, .int 0, .int 0, .int 0, .int 0])), (q_1, .inl (cA_2, 12, .inr (.inr (.inr (.inr (fun _ => none)))))), (q_4, .inl (cA_5, 10, .inr (.inr (.inr (.inr (fun _ => none)))))), (q_7, .inl (cA_8, 24, .inr (.inr (.inr (.inr (fun _ => none)))))), (q_10, .inl (cA_11, 144, .inr (.inr (.inr (.inr (fun _ => none)))))), (q_13, .inr (9, [.ref x_17, .int 0])), (q_18, .inr (9, [.ref x_22, .int 0])), (q_23, .inl (cA_24, 3, .inr (.inr (.inr (.inr (fun _ => none)))))), (q_26, .inr (6, [.ref x_30, .int 0, .int 0, .int 0, .int 0, .null]))] H := hP
  have hD : va_D A [(h0, .inr (11, [.ref q_1, .ref q_4, .ref q_7, .ref q_10, .ref q_13, .ref q_18, .ref q_23, .ref q_26, .null, .int 0, .int 0, .int 0, .int 0, .null, .null, .null, .int 0, .int 0, .int 0, .int 0])), (q_1, .inl (cA_2, 12, .inr (.inr (.inr (.inr (fun _ => none)))))), (q_4, .inl (cA_5, 10, .inr (.inr (.inr (.inr (fun _ => none)))))), (q_7, .inl (cA_8, 24, .inr (.inr (.inr (.inr (fun _ => none)))))), (q_10, .inl (cA_11, 144, .inr (.inr (.inr (.inr (fun _ => none)))))), (q_13, .inr (9, [.ref x_17, .int 0])), (q_18, .inr (9, [.ref x_22, .int 0])), (q_23, .inl (cA_24, 3, .inr (.inr (.inr (.inr (fun _ => none)))))), (q_26, .inr (6, [.ref x_30, .int 0, .int 0, .int 0, .int 0, .null]))] := hD
  refine lv_aload_n hx hb dX11_init_89 rfl (lv_at hl 0 rfl) ?_
  have hr_32c : 11 + 1 ≤ 18 := by decide +kernel
  have hr_32s : 1861 + 3 ≤ 9492 := by decide +kernel
  refine va_new (ci := 2) (fs := [.null, .long 0, .long 0]) (C := RX2) (T := TX2) (N := 3) hx hb hts (fun w h => List.mem_cons_of_mem _ (List.mem_append_right _ (List.mem_append_right _ (List.mem_append_right _ (List.mem_append_right _ (List.mem_append_right _ (List.mem_append_right _ (List.mem_append_right _ (List.mem_append_left _ h))))))))) tyX2 tyX2_ok hown (hts (.classLink RX11 56 RX2) (List.mem_cons_of_mem _ (List.mem_append_left _ (List.mem_of_getElem? (i := 25) rfl)))) (hts (.instantiable RX2 3) (List.mem_cons_of_mem _ (List.mem_append_left _ (List.mem_of_getElem? (i := 26) rfl)))) (hts (.initialized RX2) (List.mem_cons_of_mem _ (List.mem_append_left _ (List.mem_of_getElem? (i := 27) rfl)))) hK hP hD hS hA rfl (fun j hj => by rcases (show j = 0 ∨ j = 1 ∨ j = 2 by omega) with rfl | rfl | rfl <;> rfl) hr_32c hr_32s dX11_init_90 (fun q_31 H hP hD hS => ?_)
  have hP : va_P (dC, dI) vwCl [(h0, .inr (11, [.ref q_1, .ref q_4, .ref q_7, .ref q_10, .ref q_13, .ref q_18, .ref q_23, .ref q_26, .null, .int 0, .int 0, .int 0, .int 0, .null, .null, .null, .int 0, .int 0, .int 0, .int 0])), (q_1, .inl (cA_2, 12, .inr (.inr (.inr (.inr (fun _ => none)))))), (q_4, .inl (cA_5, 10, .inr (.inr (.inr (.inr (fun _ => none)))))), (q_7, .inl (cA_8, 24, .inr (.inr (.inr (.inr (fun _ => none)))))), (q_10, .inl (cA_11, 144, .inr (.inr (.inr (.inr (fun _ => none)))))), (q_13, .inr (9, [.ref x_17, .int 0])), (q_18, .inr (9, [.ref x_22, .int 0])), (q_23, .inl (cA_24, 3, .inr (.inr (.inr (.inr (fun _ => none)))))), (q_26, .inr (6, [.ref x_30, .int 0, .int 0, .int 0, .int 0, .null])), (q_31, .inr (2, [.null, .long 0, .long 0]))] H := hP
  have hD : va_D A [(h0, .inr (11, [.ref q_1, .ref q_4, .ref q_7, .ref q_10, .ref q_13, .ref q_18, .ref q_23, .ref q_26, .null, .int 0, .int 0, .int 0, .int 0, .null, .null, .null, .int 0, .int 0, .int 0, .int 0])), (q_1, .inl (cA_2, 12, .inr (.inr (.inr (.inr (fun _ => none)))))), (q_4, .inl (cA_5, 10, .inr (.inr (.inr (.inr (fun _ => none)))))), (q_7, .inl (cA_8, 24, .inr (.inr (.inr (.inr (fun _ => none)))))), (q_10, .inl (cA_11, 144, .inr (.inr (.inr (.inr (fun _ => none)))))), (q_13, .inr (9, [.ref x_17, .int 0])), (q_18, .inr (9, [.ref x_22, .int 0])), (q_23, .inl (cA_24, 3, .inr (.inr (.inr (.inr (fun _ => none)))))), (q_26, .inr (6, [.ref x_30, .int 0, .int 0, .int 0, .int 0, .null])), (q_31, .inr (2, [.null, .long 0, .long 0]))] := hD
  refine W.widen (k := 12) (n := 1864) (by decide +kernel) (by decide +kernel) ?_
  refine lv_dup hx hb dX11_init_93 rfl ?_
  have hPc := hP.sub (ws' := [(q_31, .inr (2, [.null, .long 0, .long 0]))]) [9] rfl
  have hDc := hD.sub (ws' := [(q_31, .inr (2, [.null, .long 0, .long 0]))]) [9] (by decide +kernel) rfl
  have hKc := hK.sub (tys' := []) [] rfl
  have hFc := va_free (wc := [(q_31, .inr (2, [.null, .long 0, .long 0]))]) hD hS hA [9] rfl
  have hr_34c : 12 + 0 ≤ 18 := by decide +kernel
  have hr_34s : 1864 + 0 ≤ 9492 := by decide +kernel
  refine va_callv (va_runIN (As := []) (rest := [.ref q_31, .ref h0]) ⟨hx, hb, hml, hown, hts⟩ (k_X2_init l dC dI H.size q_31) ⟨va_cnB 0 hts wq_X11_init_g7 rfl rfl rfl hpr5 (hts (.initialized RX2) (List.mem_cons_of_mem _ (List.mem_append_left _ (List.mem_of_getElem? (i := 27) rfl)))) (by decide +kernel) ⟨Nat.le_of_ble_eq_true rfl, Nat.le_of_ble_eq_true rfl⟩, rfl, (hts (.instanceMethod yX2_init) (List.mem_cons_of_mem _ (List.mem_append_left _ (List.mem_of_getElem? (i := 28) rfl))))⟩ ⟨fun a U g mk q => by obtain ⟨q0, q1, qP, qK, qD⟩ := q; exact ⟨q0, q1, qP, va_K.moved (u := U) (U := U.calling g mk a) (Vm.Alike.refl U.vm) qK, qD⟩, fun U hU hW => ⟨rfl, by rw [hU], by rw [hU]; exact hPc, va_K.moved hW.alike hKc, hDc.weaken (fun _ _ _ _ => trivial)⟩⟩ rfl rfl hl.1 rfl (lv_room (Nat.le_of_ble_eq_true rfl)) dX11_init_94 ⟨hr_34c, hr_34s⟩) hS (fun q _ h => hFc q h) hFc (fun u t H1 locs ht hvm hw hB hz1 hk1 hS => ?_)
  obtain ⟨hP1, hK1, hD1⟩ := hB
  rw [ht] at hP1
  obtain ⟨hP, hD⟩ := va_join (wr := [(h0, .inr (11, [.ref q_1, .ref q_4, .ref q_7, .ref q_10, .ref q_13, .ref q_18, .ref q_23, .ref q_26, .null, .int 0, .int 0, .int 0, .int 0, .null, .null, .null, .int 0, .int 0, .int 0, .int 0])), (q_1, .inl (cA_2, 12, .inr (.inr (.inr (.inr (fun _ => none)))))), (q_4, .inl (cA_5, 10, .inr (.inr (.inr (.inr (fun _ => none)))))), (q_7, .inl (cA_8, 24, .inr (.inr (.inr (.inr (fun _ => none)))))), (q_10, .inl (cA_11, 144, .inr (.inr (.inr (.inr (fun _ => none)))))), (q_13, .inr (9, [.ref x_17, .int 0])), (q_18, .inr (9, [.ref x_22, .int 0])), (q_23, .inl (cA_24, 3, .inr (.inr (.inr (.inr (fun _ => none)))))), (q_26, .inr (6, [.ref x_30, .int 0, .int 0, .int 0, .int 0, .null]))]) (w1 := [(q_31, .inr (2, [.null, .long 0, .long 0]))]) hP hD [9] [0, 1, 2, 3, 4, 5, 6, 7, 8] rfl rfl (by decide +kernel) (by decide +kernel) hk1 hFc hP1 hD1
  generalize H1 = H at hP hS ⊢
  have hP : va_P (dC, dI) vwCl [(h0, .inr (11, [.ref q_1, .ref q_4, .ref q_7, .ref q_10, .ref q_13, .ref q_18, .ref q_23, .ref q_26, .null, .int 0, .int 0, .int 0, .int 0, .null, .null, .null, .int 0, .int 0, .int 0, .int 0])), (q_1, .inl (cA_2, 12, .inr (.inr (.inr (.inr (fun _ => none)))))), (q_4, .inl (cA_5, 10, .inr (.inr (.inr (.inr (fun _ => none)))))), (q_7, .inl (cA_8, 24, .inr (.inr (.inr (.inr (fun _ => none)))))), (q_10, .inl (cA_11, 144, .inr (.inr (.inr (.inr (fun _ => none)))))), (q_13, .inr (9, [.ref x_17, .int 0])), (q_18, .inr (9, [.ref x_22, .int 0])), (q_23, .inl (cA_24, 3, .inr (.inr (.inr (.inr (fun _ => none)))))), (q_26, .inr (6, [.ref x_30, .int 0, .int 0, .int 0, .int 0, .null])), (q_31, .inr (2, [.null, .long 0, .long 0]))] H := hP
  have hD : va_D A [(h0, .inr (11, [.ref q_1, .ref q_4, .ref q_7, .ref q_10, .ref q_13, .ref q_18, .ref q_23, .ref q_26, .null, .int 0, .int 0, .int 0, .int 0, .null, .null, .null, .int 0, .int 0, .int 0, .int 0])), (q_1, .inl (cA_2, 12, .inr (.inr (.inr (.inr (fun _ => none)))))), (q_4, .inl (cA_5, 10, .inr (.inr (.inr (.inr (fun _ => none)))))), (q_7, .inl (cA_8, 24, .inr (.inr (.inr (.inr (fun _ => none)))))), (q_10, .inl (cA_11, 144, .inr (.inr (.inr (.inr (fun _ => none)))))), (q_13, .inr (9, [.ref x_17, .int 0])), (q_18, .inr (9, [.ref x_22, .int 0])), (q_23, .inl (cA_24, 3, .inr (.inr (.inr (.inr (fun _ => none)))))), (q_26, .inr (6, [.ref x_30, .int 0, .int 0, .int 0, .int 0, .null])), (q_31, .inr (2, [.null, .long 0, .long 0]))] := hD
  refine va_putF (D := (dC, dI)) (ci := 11) (v := .ref q_31) (ty := .object "SixNet$Hop") (C := RX11) (T := TX11) (N := 20) hx hb hts (fun w h => List.mem_cons_of_mem _ (List.mem_append_right _ (List.mem_append_left _ h))) tyX11 tyX11_ok nmX11 hown hK hP hD hS 0 rfl rfl 8 (by decide +kernel) (hts (.fieldLink RX11 59 "SixNet" "hop" "LSixNet$Hop;") (List.mem_cons_of_mem _ (List.mem_append_left _ (List.mem_of_getElem? (i := 29) rfl)))) (fun _ h9 => h9) rfl hin rfl (by decide +kernel) rfl rfl (Nat.le_of_ble_eq_true rfl) dX11_init_97 (fun H locs hP hD hS => ?_)
  have hP : va_P (dC, dI) vwCl [(h0, .inr (11, [.ref q_1, .ref q_4, .ref q_7, .ref q_10, .ref q_13, .ref q_18, .ref q_23, .ref q_26, .ref q_31, .int 0, .int 0, .int 0, .int 0, .null, .null, .null, .int 0, .int 0, .int 0, .int 0])), (q_1, .inl (cA_2, 12, .inr (.inr (.inr (.inr (fun _ => none)))))), (q_4, .inl (cA_5, 10, .inr (.inr (.inr (.inr (fun _ => none)))))), (q_7, .inl (cA_8, 24, .inr (.inr (.inr (.inr (fun _ => none)))))), (q_10, .inl (cA_11, 144, .inr (.inr (.inr (.inr (fun _ => none)))))), (q_13, .inr (9, [.ref x_17, .int 0])), (q_18, .inr (9, [.ref x_22, .int 0])), (q_23, .inl (cA_24, 3, .inr (.inr (.inr (.inr (fun _ => none)))))), (q_26, .inr (6, [.ref x_30, .int 0, .int 0, .int 0, .int 0, .null])), (q_31, .inr (2, [.null, .long 0, .long 0]))] H := hP
  have hD : va_D A [(h0, .inr (11, [.ref q_1, .ref q_4, .ref q_7, .ref q_10, .ref q_13, .ref q_18, .ref q_23, .ref q_26, .ref q_31, .int 0, .int 0, .int 0, .int 0, .null, .null, .null, .int 0, .int 0, .int 0, .int 0])), (q_1, .inl (cA_2, 12, .inr (.inr (.inr (.inr (fun _ => none)))))), (q_4, .inl (cA_5, 10, .inr (.inr (.inr (.inr (fun _ => none)))))), (q_7, .inl (cA_8, 24, .inr (.inr (.inr (.inr (fun _ => none)))))), (q_10, .inl (cA_11, 144, .inr (.inr (.inr (.inr (fun _ => none)))))), (q_13, .inr (9, [.ref x_17, .int 0])), (q_18, .inr (9, [.ref x_22, .int 0])), (q_23, .inl (cA_24, 3, .inr (.inr (.inr (.inr (fun _ => none)))))), (q_26, .inr (6, [.ref x_30, .int 0, .int 0, .int 0, .int 0, .null])), (q_31, .inr (2, [.null, .long 0, .long 0]))] := hD
  refine lv_aload_n hx hb dX11_init_100 rfl (lv_at hl 0 rfl) ?_
  have hr_36c : 12 + 1 ≤ 18 := by decide +kernel
  have hr_36s : 1864 + 6 ≤ 9492 := by decide +kernel
  refine va_new (ci := 6) (fs := [.null, .int 0, .int 0, .int 0, .int 0, .null]) (C := RX6) (T := TX6) (N := 6) hx hb hts (fun w h => List.mem_cons_of_mem _ (List.mem_append_right _ (List.mem_append_right _ (List.mem_append_right _ (List.mem_append_right _ (List.mem_append_right _ (List.mem_append_left _ h))))))) tyX6 tyX6_ok hown (hts (.classLink RX11 45 RX6) (List.mem_cons_of_mem _ (List.mem_append_left _ (List.mem_of_getElem? (i := 18) rfl)))) (hts (.instantiable RX6 6) (List.mem_cons_of_mem _ (List.mem_append_left _ (List.mem_of_getElem? (i := 20) rfl)))) (hts (.initialized RX6) (List.mem_cons_of_mem _ (List.mem_append_left _ (List.mem_of_getElem? (i := 21) rfl)))) hK hP hD hS hA rfl (fun j hj => by rcases (show j = 0 ∨ j = 1 ∨ j = 2 ∨ j = 3 ∨ j = 4 ∨ j = 5 by omega) with rfl | rfl | rfl | rfl | rfl | rfl <;> rfl) hr_36c hr_36s dX11_init_101 (fun q_35 H hP hD hS => ?_)
  have hP : va_P (dC, dI) vwCl [(h0, .inr (11, [.ref q_1, .ref q_4, .ref q_7, .ref q_10, .ref q_13, .ref q_18, .ref q_23, .ref q_26, .ref q_31, .int 0, .int 0, .int 0, .int 0, .null, .null, .null, .int 0, .int 0, .int 0, .int 0])), (q_1, .inl (cA_2, 12, .inr (.inr (.inr (.inr (fun _ => none)))))), (q_4, .inl (cA_5, 10, .inr (.inr (.inr (.inr (fun _ => none)))))), (q_7, .inl (cA_8, 24, .inr (.inr (.inr (.inr (fun _ => none)))))), (q_10, .inl (cA_11, 144, .inr (.inr (.inr (.inr (fun _ => none)))))), (q_13, .inr (9, [.ref x_17, .int 0])), (q_18, .inr (9, [.ref x_22, .int 0])), (q_23, .inl (cA_24, 3, .inr (.inr (.inr (.inr (fun _ => none)))))), (q_26, .inr (6, [.ref x_30, .int 0, .int 0, .int 0, .int 0, .null])), (q_31, .inr (2, [.null, .long 0, .long 0])), (q_35, .inr (6, [.null, .int 0, .int 0, .int 0, .int 0, .null]))] H := hP
  have hD : va_D A [(h0, .inr (11, [.ref q_1, .ref q_4, .ref q_7, .ref q_10, .ref q_13, .ref q_18, .ref q_23, .ref q_26, .ref q_31, .int 0, .int 0, .int 0, .int 0, .null, .null, .null, .int 0, .int 0, .int 0, .int 0])), (q_1, .inl (cA_2, 12, .inr (.inr (.inr (.inr (fun _ => none)))))), (q_4, .inl (cA_5, 10, .inr (.inr (.inr (.inr (fun _ => none)))))), (q_7, .inl (cA_8, 24, .inr (.inr (.inr (.inr (fun _ => none)))))), (q_10, .inl (cA_11, 144, .inr (.inr (.inr (.inr (fun _ => none)))))), (q_13, .inr (9, [.ref x_17, .int 0])), (q_18, .inr (9, [.ref x_22, .int 0])), (q_23, .inl (cA_24, 3, .inr (.inr (.inr (.inr (fun _ => none)))))), (q_26, .inr (6, [.ref x_30, .int 0, .int 0, .int 0, .int 0, .null])), (q_31, .inr (2, [.null, .long 0, .long 0])), (q_35, .inr (6, [.null, .int 0, .int 0, .int 0, .int 0, .null]))] := hD
  refine W.widen (k := 13) (n := 1870) (by decide +kernel) (by decide +kernel) ?_
  refine lv_dup hx hb dX11_init_104 rfl ?_
  refine lv_sipush (v := 1514) hx hb dX11_init_105 (by decide +kernel) ?_
  have hPc := hP.sub (ws' := [(q_35, .inr (6, [.null, .int 0, .int 0, .int 0, .int 0, .null]))]) [10] rfl
  have hDc := hD.sub (ws' := [(q_35, .inr (6, [.null, .int 0, .int 0, .int 0, .int 0, .null]))]) [10] (by decide +kernel) rfl
  have hKc := hK.sub (tys' := []) [] rfl
  have hFc := va_free (wc := [(q_35, .inr (6, [.null, .int 0, .int 0, .int 0, .int 0, .null]))]) hD hS hA [10] rfl
  have hr_38c : 13 + 1 ≤ 18 := by decide +kernel
  have hr_38s : 1870 + 1514 ≤ 9492 := by decide +kernel
  refine va_callv (va_runI (As := [.int 1514]) (rest := [.ref q_35, .ref h0]) ⟨hx, hb, hml, hown, hts⟩ (k_X6_init_1514 l dC dI H.size q_35) (cwI 1 hts wq_X11_init_g5 rfl rfl rfl (hts (.initialized RX6) (List.mem_cons_of_mem _ (List.mem_append_left _ (List.mem_of_getElem? (i := 21) rfl)))) (hts (.methodLink RX11 51 yX6_init) (List.mem_cons_of_mem _ (List.mem_append_left _ (List.mem_of_getElem? (i := 22) rfl)))) (hts (.instanceMethod yX6_init) (List.mem_cons_of_mem _ (List.mem_append_left _ (List.mem_of_getElem? (i := 23) rfl)))) rfl (by decide +kernel) ⟨Nat.le_of_ble_eq_true rfl, Nat.le_of_ble_eq_true rfl⟩) ⟨fun a U g mk q => by obtain ⟨q0, q1, qP, qK, qD⟩ := q; exact ⟨q0, q1, qP, va_K.moved (u := U) (U := U.calling g mk a) (Vm.Alike.refl U.vm) qK, qD⟩, fun U hU hW => ⟨rfl, by rw [hU], by rw [hU]; exact hPc, va_K.moved hW.alike hKc, hDc.weaken (fun _ _ _ _ => trivial)⟩⟩ rfl rfl hl.1 rfl (lv_room (Nat.le_of_ble_eq_true rfl)) dX11_init_108 ⟨hr_38c, hr_38s⟩) hS (fun q _ h => hFc q h) hFc (fun u t H1 locs ht hvm hw hB hz1 hk1 hS => ?_)
  obtain ⟨x_39, hP1, hK1, hD1⟩ := hB
  rw [ht] at hP1
  obtain ⟨hP, hD⟩ := va_join (wr := [(h0, .inr (11, [.ref q_1, .ref q_4, .ref q_7, .ref q_10, .ref q_13, .ref q_18, .ref q_23, .ref q_26, .ref q_31, .int 0, .int 0, .int 0, .int 0, .null, .null, .null, .int 0, .int 0, .int 0, .int 0])), (q_1, .inl (cA_2, 12, .inr (.inr (.inr (.inr (fun _ => none)))))), (q_4, .inl (cA_5, 10, .inr (.inr (.inr (.inr (fun _ => none)))))), (q_7, .inl (cA_8, 24, .inr (.inr (.inr (.inr (fun _ => none)))))), (q_10, .inl (cA_11, 144, .inr (.inr (.inr (.inr (fun _ => none)))))), (q_13, .inr (9, [.ref x_17, .int 0])), (q_18, .inr (9, [.ref x_22, .int 0])), (q_23, .inl (cA_24, 3, .inr (.inr (.inr (.inr (fun _ => none)))))), (q_26, .inr (6, [.ref x_30, .int 0, .int 0, .int 0, .int 0, .null])), (q_31, .inr (2, [.null, .long 0, .long 0]))]) (w1 := [(q_35, .inr (6, [.ref x_39, .int 0, .int 0, .int 0, .int 0, .null]))]) hP hD [10] [0, 1, 2, 3, 4, 5, 6, 7, 8, 9] rfl rfl (by decide +kernel) (by decide +kernel) hk1 hFc hP1 hD1
  generalize H1 = H at hP hS ⊢
  have hP : va_P (dC, dI) vwCl [(h0, .inr (11, [.ref q_1, .ref q_4, .ref q_7, .ref q_10, .ref q_13, .ref q_18, .ref q_23, .ref q_26, .ref q_31, .int 0, .int 0, .int 0, .int 0, .null, .null, .null, .int 0, .int 0, .int 0, .int 0])), (q_1, .inl (cA_2, 12, .inr (.inr (.inr (.inr (fun _ => none)))))), (q_4, .inl (cA_5, 10, .inr (.inr (.inr (.inr (fun _ => none)))))), (q_7, .inl (cA_8, 24, .inr (.inr (.inr (.inr (fun _ => none)))))), (q_10, .inl (cA_11, 144, .inr (.inr (.inr (.inr (fun _ => none)))))), (q_13, .inr (9, [.ref x_17, .int 0])), (q_18, .inr (9, [.ref x_22, .int 0])), (q_23, .inl (cA_24, 3, .inr (.inr (.inr (.inr (fun _ => none)))))), (q_26, .inr (6, [.ref x_30, .int 0, .int 0, .int 0, .int 0, .null])), (q_31, .inr (2, [.null, .long 0, .long 0])), (q_35, .inr (6, [.ref x_39, .int 0, .int 0, .int 0, .int 0, .null]))] H := hP
  have hD : va_D A [(h0, .inr (11, [.ref q_1, .ref q_4, .ref q_7, .ref q_10, .ref q_13, .ref q_18, .ref q_23, .ref q_26, .ref q_31, .int 0, .int 0, .int 0, .int 0, .null, .null, .null, .int 0, .int 0, .int 0, .int 0])), (q_1, .inl (cA_2, 12, .inr (.inr (.inr (.inr (fun _ => none)))))), (q_4, .inl (cA_5, 10, .inr (.inr (.inr (.inr (fun _ => none)))))), (q_7, .inl (cA_8, 24, .inr (.inr (.inr (.inr (fun _ => none)))))), (q_10, .inl (cA_11, 144, .inr (.inr (.inr (.inr (fun _ => none)))))), (q_13, .inr (9, [.ref x_17, .int 0])), (q_18, .inr (9, [.ref x_22, .int 0])), (q_23, .inl (cA_24, 3, .inr (.inr (.inr (.inr (fun _ => none)))))), (q_26, .inr (6, [.ref x_30, .int 0, .int 0, .int 0, .int 0, .null])), (q_31, .inr (2, [.null, .long 0, .long 0])), (q_35, .inr (6, [.ref x_39, .int 0, .int 0, .int 0, .int 0, .null]))] := hD
  refine W.widen (k := 14) (n := 3384) (by decide +kernel) (by decide +kernel) ?_
  refine va_put (D := (dC, dI)) (ci := 11) (v := .ref q_35) (ty := .object "SixNet$Packet") (C := RX11) (T := TX11) (N := 20) hx hb hts (fun w h => List.mem_cons_of_mem _ (List.mem_append_right _ (List.mem_append_left _ h))) tyX11 tyX11_ok nmX11 hown hK hP hD hS 0 rfl rfl 13 (by decide +kernel) (hts (.fieldLink RX11 63 "SixNet" "arriving" "LSixNet$Packet;") (List.mem_cons_of_mem _ (List.mem_append_left _ (List.mem_of_getElem? (i := 30) rfl)))) (fun _ h9 => h9) rfl (by decide +kernel) rfl rfl (Nat.le_of_ble_eq_true rfl) dX11_init_111 (fun H locs hP hD hS => ?_)
  have hP : va_P (dC, dI) vwCl [(h0, .inr (11, [.ref q_1, .ref q_4, .ref q_7, .ref q_10, .ref q_13, .ref q_18, .ref q_23, .ref q_26, .ref q_31, .int 0, .int 0, .int 0, .int 0, .ref q_35, .null, .null, .int 0, .int 0, .int 0, .int 0])), (q_1, .inl (cA_2, 12, .inr (.inr (.inr (.inr (fun _ => none)))))), (q_4, .inl (cA_5, 10, .inr (.inr (.inr (.inr (fun _ => none)))))), (q_7, .inl (cA_8, 24, .inr (.inr (.inr (.inr (fun _ => none)))))), (q_10, .inl (cA_11, 144, .inr (.inr (.inr (.inr (fun _ => none)))))), (q_13, .inr (9, [.ref x_17, .int 0])), (q_18, .inr (9, [.ref x_22, .int 0])), (q_23, .inl (cA_24, 3, .inr (.inr (.inr (.inr (fun _ => none)))))), (q_26, .inr (6, [.ref x_30, .int 0, .int 0, .int 0, .int 0, .null])), (q_31, .inr (2, [.null, .long 0, .long 0])), (q_35, .inr (6, [.ref x_39, .int 0, .int 0, .int 0, .int 0, .null]))] H := hP
  have hD : va_D A [(h0, .inr (11, [.ref q_1, .ref q_4, .ref q_7, .ref q_10, .ref q_13, .ref q_18, .ref q_23, .ref q_26, .ref q_31, .int 0, .int 0, .int 0, .int 0, .ref q_35, .null, .null, .int 0, .int 0, .int 0, .int 0])), (q_1, .inl (cA_2, 12, .inr (.inr (.inr (.inr (fun _ => none)))))), (q_4, .inl (cA_5, 10, .inr (.inr (.inr (.inr (fun _ => none)))))), (q_7, .inl (cA_8, 24, .inr (.inr (.inr (.inr (fun _ => none)))))), (q_10, .inl (cA_11, 144, .inr (.inr (.inr (.inr (fun _ => none)))))), (q_13, .inr (9, [.ref x_17, .int 0])), (q_18, .inr (9, [.ref x_22, .int 0])), (q_23, .inl (cA_24, 3, .inr (.inr (.inr (.inr (fun _ => none)))))), (q_26, .inr (6, [.ref x_30, .int 0, .int 0, .int 0, .int 0, .null])), (q_31, .inr (2, [.null, .long 0, .long 0])), (q_35, .inr (6, [.ref x_39, .int 0, .int 0, .int 0, .int 0, .null]))] := hD
  refine lv_aload_n hx hb dX11_init_114 rfl (lv_at hl 0 rfl) ?_
  have hr_41c : 14 + 1 ≤ 18 := by decide +kernel
  have hr_41s : 3384 + 6 ≤ 9492 := by decide +kernel
  refine va_new (ci := 6) (fs := [.null, .int 0, .int 0, .int 0, .int 0, .null]) (C := RX6) (T := TX6) (N := 6) hx hb hts (fun w h => List.mem_cons_of_mem _ (List.mem_append_right _ (List.mem_append_right _ (List.mem_append_right _ (List.mem_append_right _ (List.mem_append_right _ (List.mem_append_left _ h))))))) tyX6 tyX6_ok hown (hts (.classLink RX11 45 RX6) (List.mem_cons_of_mem _ (List.mem_append_left _ (List.mem_of_getElem? (i := 18) rfl)))) (hts (.instantiable RX6 6) (List.mem_cons_of_mem _ (List.mem_append_left _ (List.mem_of_getElem? (i := 20) rfl)))) (hts (.initialized RX6) (List.mem_cons_of_mem _ (List.mem_append_left _ (List.mem_of_getElem? (i := 21) rfl)))) hK hP hD hS hA rfl (fun j hj => by rcases (show j = 0 ∨ j = 1 ∨ j = 2 ∨ j = 3 ∨ j = 4 ∨ j = 5 by omega) with rfl | rfl | rfl | rfl | rfl | rfl <;> rfl) hr_41c hr_41s dX11_init_115 (fun q_40 H hP hD hS => ?_)
  have hP : va_P (dC, dI) vwCl [(h0, .inr (11, [.ref q_1, .ref q_4, .ref q_7, .ref q_10, .ref q_13, .ref q_18, .ref q_23, .ref q_26, .ref q_31, .int 0, .int 0, .int 0, .int 0, .ref q_35, .null, .null, .int 0, .int 0, .int 0, .int 0])), (q_1, .inl (cA_2, 12, .inr (.inr (.inr (.inr (fun _ => none)))))), (q_4, .inl (cA_5, 10, .inr (.inr (.inr (.inr (fun _ => none)))))), (q_7, .inl (cA_8, 24, .inr (.inr (.inr (.inr (fun _ => none)))))), (q_10, .inl (cA_11, 144, .inr (.inr (.inr (.inr (fun _ => none)))))), (q_13, .inr (9, [.ref x_17, .int 0])), (q_18, .inr (9, [.ref x_22, .int 0])), (q_23, .inl (cA_24, 3, .inr (.inr (.inr (.inr (fun _ => none)))))), (q_26, .inr (6, [.ref x_30, .int 0, .int 0, .int 0, .int 0, .null])), (q_31, .inr (2, [.null, .long 0, .long 0])), (q_35, .inr (6, [.ref x_39, .int 0, .int 0, .int 0, .int 0, .null])), (q_40, .inr (6, [.null, .int 0, .int 0, .int 0, .int 0, .null]))] H := hP
  have hD : va_D A [(h0, .inr (11, [.ref q_1, .ref q_4, .ref q_7, .ref q_10, .ref q_13, .ref q_18, .ref q_23, .ref q_26, .ref q_31, .int 0, .int 0, .int 0, .int 0, .ref q_35, .null, .null, .int 0, .int 0, .int 0, .int 0])), (q_1, .inl (cA_2, 12, .inr (.inr (.inr (.inr (fun _ => none)))))), (q_4, .inl (cA_5, 10, .inr (.inr (.inr (.inr (fun _ => none)))))), (q_7, .inl (cA_8, 24, .inr (.inr (.inr (.inr (fun _ => none)))))), (q_10, .inl (cA_11, 144, .inr (.inr (.inr (.inr (fun _ => none)))))), (q_13, .inr (9, [.ref x_17, .int 0])), (q_18, .inr (9, [.ref x_22, .int 0])), (q_23, .inl (cA_24, 3, .inr (.inr (.inr (.inr (fun _ => none)))))), (q_26, .inr (6, [.ref x_30, .int 0, .int 0, .int 0, .int 0, .null])), (q_31, .inr (2, [.null, .long 0, .long 0])), (q_35, .inr (6, [.ref x_39, .int 0, .int 0, .int 0, .int 0, .null])), (q_40, .inr (6, [.null, .int 0, .int 0, .int 0, .int 0, .null]))] := hD
  refine W.widen (k := 15) (n := 3390) (by decide +kernel) (by decide +kernel) ?_
  refine lv_dup hx hb dX11_init_118 rfl ?_
  refine lv_sipush (v := 3048) hx hb dX11_init_119 (by decide +kernel) ?_
  have hPc := hP.sub (ws' := [(q_40, .inr (6, [.null, .int 0, .int 0, .int 0, .int 0, .null]))]) [11] rfl
  have hDc := hD.sub (ws' := [(q_40, .inr (6, [.null, .int 0, .int 0, .int 0, .int 0, .null]))]) [11] (by decide +kernel) rfl
  have hKc := hK.sub (tys' := []) [] rfl
  have hFc := va_free (wc := [(q_40, .inr (6, [.null, .int 0, .int 0, .int 0, .int 0, .null]))]) hD hS hA [11] rfl
  have hr_43c : 15 + 1 ≤ 18 := by decide +kernel
  have hr_43s : 3390 + 3048 ≤ 9492 := by decide +kernel
  refine va_callv (va_runI (As := [.int 3048]) (rest := [.ref q_40, .ref h0]) ⟨hx, hb, hml, hown, hts⟩ (k_X6_init_3048 l dC dI H.size q_40) (cwI 1 hts wq_X11_init_g8 rfl rfl rfl (hts (.initialized RX6) (List.mem_cons_of_mem _ (List.mem_append_left _ (List.mem_of_getElem? (i := 21) rfl)))) (hts (.methodLink RX11 51 yX6_init) (List.mem_cons_of_mem _ (List.mem_append_left _ (List.mem_of_getElem? (i := 22) rfl)))) (hts (.instanceMethod yX6_init) (List.mem_cons_of_mem _ (List.mem_append_left _ (List.mem_of_getElem? (i := 23) rfl)))) rfl (by decide +kernel) ⟨Nat.le_of_ble_eq_true rfl, Nat.le_of_ble_eq_true rfl⟩) ⟨fun a U g mk q => by obtain ⟨q0, q1, qP, qK, qD⟩ := q; exact ⟨q0, q1, qP, va_K.moved (u := U) (U := U.calling g mk a) (Vm.Alike.refl U.vm) qK, qD⟩, fun U hU hW => ⟨rfl, by rw [hU], by rw [hU]; exact hPc, va_K.moved hW.alike hKc, hDc.weaken (fun _ _ _ _ => trivial)⟩⟩ rfl rfl hl.1 rfl (lv_room (Nat.le_of_ble_eq_true rfl)) dX11_init_122 ⟨hr_43c, hr_43s⟩) hS (fun q _ h => hFc q h) hFc (fun u t H1 locs ht hvm hw hB hz1 hk1 hS => ?_)
  obtain ⟨x_44, hP1, hK1, hD1⟩ := hB
  rw [ht] at hP1
  obtain ⟨hP, hD⟩ := va_join (wr := [(h0, .inr (11, [.ref q_1, .ref q_4, .ref q_7, .ref q_10, .ref q_13, .ref q_18, .ref q_23, .ref q_26, .ref q_31, .int 0, .int 0, .int 0, .int 0, .ref q_35, .null, .null, .int 0, .int 0, .int 0, .int 0])), (q_1, .inl (cA_2, 12, .inr (.inr (.inr (.inr (fun _ => none)))))), (q_4, .inl (cA_5, 10, .inr (.inr (.inr (.inr (fun _ => none)))))), (q_7, .inl (cA_8, 24, .inr (.inr (.inr (.inr (fun _ => none)))))), (q_10, .inl (cA_11, 144, .inr (.inr (.inr (.inr (fun _ => none)))))), (q_13, .inr (9, [.ref x_17, .int 0])), (q_18, .inr (9, [.ref x_22, .int 0])), (q_23, .inl (cA_24, 3, .inr (.inr (.inr (.inr (fun _ => none)))))), (q_26, .inr (6, [.ref x_30, .int 0, .int 0, .int 0, .int 0, .null])), (q_31, .inr (2, [.null, .long 0, .long 0])), (q_35, .inr (6, [.ref x_39, .int 0, .int 0, .int 0, .int 0, .null]))]) (w1 := [(q_40, .inr (6, [.ref x_44, .int 0, .int 0, .int 0, .int 0, .null]))]) hP hD [11] [0, 1, 2, 3, 4, 5, 6, 7, 8, 9, 10] rfl rfl (by decide +kernel) (by decide +kernel) hk1 hFc hP1 hD1
  generalize H1 = H at hP hS ⊢
  have hP : va_P (dC, dI) vwCl [(h0, .inr (11, [.ref q_1, .ref q_4, .ref q_7, .ref q_10, .ref q_13, .ref q_18, .ref q_23, .ref q_26, .ref q_31, .int 0, .int 0, .int 0, .int 0, .ref q_35, .null, .null, .int 0, .int 0, .int 0, .int 0])), (q_1, .inl (cA_2, 12, .inr (.inr (.inr (.inr (fun _ => none)))))), (q_4, .inl (cA_5, 10, .inr (.inr (.inr (.inr (fun _ => none)))))), (q_7, .inl (cA_8, 24, .inr (.inr (.inr (.inr (fun _ => none)))))), (q_10, .inl (cA_11, 144, .inr (.inr (.inr (.inr (fun _ => none)))))), (q_13, .inr (9, [.ref x_17, .int 0])), (q_18, .inr (9, [.ref x_22, .int 0])), (q_23, .inl (cA_24, 3, .inr (.inr (.inr (.inr (fun _ => none)))))), (q_26, .inr (6, [.ref x_30, .int 0, .int 0, .int 0, .int 0, .null])), (q_31, .inr (2, [.null, .long 0, .long 0])), (q_35, .inr (6, [.ref x_39, .int 0, .int 0, .int 0, .int 0, .null])), (q_40, .inr (6, [.ref x_44, .int 0, .int 0, .int 0, .int 0, .null]))] H := hP
  have hD : va_D A [(h0, .inr (11, [.ref q_1, .ref q_4, .ref q_7, .ref q_10, .ref q_13, .ref q_18, .ref q_23, .ref q_26, .ref q_31, .int 0, .int 0, .int 0, .int 0, .ref q_35, .null, .null, .int 0, .int 0, .int 0, .int 0])), (q_1, .inl (cA_2, 12, .inr (.inr (.inr (.inr (fun _ => none)))))), (q_4, .inl (cA_5, 10, .inr (.inr (.inr (.inr (fun _ => none)))))), (q_7, .inl (cA_8, 24, .inr (.inr (.inr (.inr (fun _ => none)))))), (q_10, .inl (cA_11, 144, .inr (.inr (.inr (.inr (fun _ => none)))))), (q_13, .inr (9, [.ref x_17, .int 0])), (q_18, .inr (9, [.ref x_22, .int 0])), (q_23, .inl (cA_24, 3, .inr (.inr (.inr (.inr (fun _ => none)))))), (q_26, .inr (6, [.ref x_30, .int 0, .int 0, .int 0, .int 0, .null])), (q_31, .inr (2, [.null, .long 0, .long 0])), (q_35, .inr (6, [.ref x_39, .int 0, .int 0, .int 0, .int 0, .null])), (q_40, .inr (6, [.ref x_44, .int 0, .int 0, .int 0, .int 0, .null]))] := hD
  refine W.widen (k := 16) (n := 6438) (by decide +kernel) (by decide +kernel) ?_
  refine va_put (D := (dC, dI)) (ci := 11) (v := .ref q_40) (ty := .object "SixNet$Packet") (C := RX11) (T := TX11) (N := 20) hx hb hts (fun w h => List.mem_cons_of_mem _ (List.mem_append_right _ (List.mem_append_left _ h))) tyX11 tyX11_ok nmX11 hown hK hP hD hS 0 rfl rfl 14 (by decide +kernel) (hts (.fieldLink RX11 66 "SixNet" "came" "LSixNet$Packet;") (List.mem_cons_of_mem _ (List.mem_append_left _ (List.mem_of_getElem? (i := 31) rfl)))) (fun _ h9 => h9) rfl (by decide +kernel) rfl rfl (Nat.le_of_ble_eq_true rfl) dX11_init_125 (fun H locs hP hD hS => ?_)
  have hP : va_P (dC, dI) vwCl [(h0, .inr (11, [.ref q_1, .ref q_4, .ref q_7, .ref q_10, .ref q_13, .ref q_18, .ref q_23, .ref q_26, .ref q_31, .int 0, .int 0, .int 0, .int 0, .ref q_35, .ref q_40, .null, .int 0, .int 0, .int 0, .int 0])), (q_1, .inl (cA_2, 12, .inr (.inr (.inr (.inr (fun _ => none)))))), (q_4, .inl (cA_5, 10, .inr (.inr (.inr (.inr (fun _ => none)))))), (q_7, .inl (cA_8, 24, .inr (.inr (.inr (.inr (fun _ => none)))))), (q_10, .inl (cA_11, 144, .inr (.inr (.inr (.inr (fun _ => none)))))), (q_13, .inr (9, [.ref x_17, .int 0])), (q_18, .inr (9, [.ref x_22, .int 0])), (q_23, .inl (cA_24, 3, .inr (.inr (.inr (.inr (fun _ => none)))))), (q_26, .inr (6, [.ref x_30, .int 0, .int 0, .int 0, .int 0, .null])), (q_31, .inr (2, [.null, .long 0, .long 0])), (q_35, .inr (6, [.ref x_39, .int 0, .int 0, .int 0, .int 0, .null])), (q_40, .inr (6, [.ref x_44, .int 0, .int 0, .int 0, .int 0, .null]))] H := hP
  have hD : va_D A [(h0, .inr (11, [.ref q_1, .ref q_4, .ref q_7, .ref q_10, .ref q_13, .ref q_18, .ref q_23, .ref q_26, .ref q_31, .int 0, .int 0, .int 0, .int 0, .ref q_35, .ref q_40, .null, .int 0, .int 0, .int 0, .int 0])), (q_1, .inl (cA_2, 12, .inr (.inr (.inr (.inr (fun _ => none)))))), (q_4, .inl (cA_5, 10, .inr (.inr (.inr (.inr (fun _ => none)))))), (q_7, .inl (cA_8, 24, .inr (.inr (.inr (.inr (fun _ => none)))))), (q_10, .inl (cA_11, 144, .inr (.inr (.inr (.inr (fun _ => none)))))), (q_13, .inr (9, [.ref x_17, .int 0])), (q_18, .inr (9, [.ref x_22, .int 0])), (q_23, .inl (cA_24, 3, .inr (.inr (.inr (.inr (fun _ => none)))))), (q_26, .inr (6, [.ref x_30, .int 0, .int 0, .int 0, .int 0, .null])), (q_31, .inr (2, [.null, .long 0, .long 0])), (q_35, .inr (6, [.ref x_39, .int 0, .int 0, .int 0, .int 0, .null])), (q_40, .inr (6, [.ref x_44, .int 0, .int 0, .int 0, .int 0, .null]))] := hD
  refine lv_aload_n hx hb dX11_init_128 rfl (lv_at hl 0 rfl) ?_
  have hr_46c : 16 + 1 ≤ 18 := by decide +kernel
  have hr_46s : 6438 + 6 ≤ 9492 := by decide +kernel
  refine va_new (ci := 6) (fs := [.null, .int 0, .int 0, .int 0, .int 0, .null]) (C := RX6) (T := TX6) (N := 6) hx hb hts (fun w h => List.mem_cons_of_mem _ (List.mem_append_right _ (List.mem_append_right _ (List.mem_append_right _ (List.mem_append_right _ (List.mem_append_right _ (List.mem_append_left _ h))))))) tyX6 tyX6_ok hown (hts (.classLink RX11 45 RX6) (List.mem_cons_of_mem _ (List.mem_append_left _ (List.mem_of_getElem? (i := 18) rfl)))) (hts (.instantiable RX6 6) (List.mem_cons_of_mem _ (List.mem_append_left _ (List.mem_of_getElem? (i := 20) rfl)))) (hts (.initialized RX6) (List.mem_cons_of_mem _ (List.mem_append_left _ (List.mem_of_getElem? (i := 21) rfl)))) hK hP hD hS hA rfl (fun j hj => by rcases (show j = 0 ∨ j = 1 ∨ j = 2 ∨ j = 3 ∨ j = 4 ∨ j = 5 by omega) with rfl | rfl | rfl | rfl | rfl | rfl <;> rfl) hr_46c hr_46s dX11_init_129 (fun q_45 H hP hD hS => ?_)
  have hP : va_P (dC, dI) vwCl [(h0, .inr (11, [.ref q_1, .ref q_4, .ref q_7, .ref q_10, .ref q_13, .ref q_18, .ref q_23, .ref q_26, .ref q_31, .int 0, .int 0, .int 0, .int 0, .ref q_35, .ref q_40, .null, .int 0, .int 0, .int 0, .int 0])), (q_1, .inl (cA_2, 12, .inr (.inr (.inr (.inr (fun _ => none)))))), (q_4, .inl (cA_5, 10, .inr (.inr (.inr (.inr (fun _ => none)))))), (q_7, .inl (cA_8, 24, .inr (.inr (.inr (.inr (fun _ => none)))))), (q_10, .inl (cA_11, 144, .inr (.inr (.inr (.inr (fun _ => none)))))), (q_13, .inr (9, [.ref x_17, .int 0])), (q_18, .inr (9, [.ref x_22, .int 0])), (q_23, .inl (cA_24, 3, .inr (.inr (.inr (.inr (fun _ => none)))))), (q_26, .inr (6, [.ref x_30, .int 0, .int 0, .int 0, .int 0, .null])), (q_31, .inr (2, [.null, .long 0, .long 0])), (q_35, .inr (6, [.ref x_39, .int 0, .int 0, .int 0, .int 0, .null])), (q_40, .inr (6, [.ref x_44, .int 0, .int 0, .int 0, .int 0, .null])), (q_45, .inr (6, [.null, .int 0, .int 0, .int 0, .int 0, .null]))] H := hP
  have hD : va_D A [(h0, .inr (11, [.ref q_1, .ref q_4, .ref q_7, .ref q_10, .ref q_13, .ref q_18, .ref q_23, .ref q_26, .ref q_31, .int 0, .int 0, .int 0, .int 0, .ref q_35, .ref q_40, .null, .int 0, .int 0, .int 0, .int 0])), (q_1, .inl (cA_2, 12, .inr (.inr (.inr (.inr (fun _ => none)))))), (q_4, .inl (cA_5, 10, .inr (.inr (.inr (.inr (fun _ => none)))))), (q_7, .inl (cA_8, 24, .inr (.inr (.inr (.inr (fun _ => none)))))), (q_10, .inl (cA_11, 144, .inr (.inr (.inr (.inr (fun _ => none)))))), (q_13, .inr (9, [.ref x_17, .int 0])), (q_18, .inr (9, [.ref x_22, .int 0])), (q_23, .inl (cA_24, 3, .inr (.inr (.inr (.inr (fun _ => none)))))), (q_26, .inr (6, [.ref x_30, .int 0, .int 0, .int 0, .int 0, .null])), (q_31, .inr (2, [.null, .long 0, .long 0])), (q_35, .inr (6, [.ref x_39, .int 0, .int 0, .int 0, .int 0, .null])), (q_40, .inr (6, [.ref x_44, .int 0, .int 0, .int 0, .int 0, .null])), (q_45, .inr (6, [.null, .int 0, .int 0, .int 0, .int 0, .null]))] := hD
  refine W.widen (k := 17) (n := 6444) (by decide +kernel) (by decide +kernel) ?_
  refine lv_dup hx hb dX11_init_132 rfl ?_
  refine lv_sipush (v := 3048) hx hb dX11_init_133 (by decide +kernel) ?_
  have hPc := hP.sub (ws' := [(q_45, .inr (6, [.null, .int 0, .int 0, .int 0, .int 0, .null]))]) [12] rfl
  have hDc := hD.sub (ws' := [(q_45, .inr (6, [.null, .int 0, .int 0, .int 0, .int 0, .null]))]) [12] (by decide +kernel) rfl
  have hKc := hK.sub (tys' := []) [] rfl
  have hFc := va_free (wc := [(q_45, .inr (6, [.null, .int 0, .int 0, .int 0, .int 0, .null]))]) hD hS hA [12] rfl
  have hr_48c : 17 + 1 ≤ 18 := by decide +kernel
  have hr_48s : 6444 + 3048 ≤ 9492 := by decide +kernel
  refine va_callv (va_runI (As := [.int 3048]) (rest := [.ref q_45, .ref h0]) ⟨hx, hb, hml, hown, hts⟩ (k_X6_init_3048 l dC dI H.size q_45) (cwI 1 hts wq_X11_init_g8 rfl rfl rfl (hts (.initialized RX6) (List.mem_cons_of_mem _ (List.mem_append_left _ (List.mem_of_getElem? (i := 21) rfl)))) (hts (.methodLink RX11 51 yX6_init) (List.mem_cons_of_mem _ (List.mem_append_left _ (List.mem_of_getElem? (i := 22) rfl)))) (hts (.instanceMethod yX6_init) (List.mem_cons_of_mem _ (List.mem_append_left _ (List.mem_of_getElem? (i := 23) rfl)))) rfl (by decide +kernel) ⟨Nat.le_of_ble_eq_true rfl, Nat.le_of_ble_eq_true rfl⟩) ⟨fun a U g mk q => by obtain ⟨q0, q1, qP, qK, qD⟩ := q; exact ⟨q0, q1, qP, va_K.moved (u := U) (U := U.calling g mk a) (Vm.Alike.refl U.vm) qK, qD⟩, fun U hU hW => ⟨rfl, by rw [hU], by rw [hU]; exact hPc, va_K.moved hW.alike hKc, hDc.weaken (fun _ _ _ _ => trivial)⟩⟩ rfl rfl hl.1 rfl (lv_room (Nat.le_of_ble_eq_true rfl)) dX11_init_136 ⟨hr_48c, hr_48s⟩) hS (fun q _ h => hFc q h) hFc (fun u t H1 locs ht hvm hw hB hz1 hk1 hS => ?_)
  obtain ⟨x_49, hP1, hK1, hD1⟩ := hB
  rw [ht] at hP1
  obtain ⟨hP, hD⟩ := va_join (wr := [(h0, .inr (11, [.ref q_1, .ref q_4, .ref q_7, .ref q_10, .ref q_13, .ref q_18, .ref q_23, .ref q_26, .ref q_31, .int 0, .int 0, .int 0, .int 0, .ref q_35, .ref q_40, .null, .int 0, .int 0, .int 0, .int 0])), (q_1, .inl (cA_2, 12, .inr (.inr (.inr (.inr (fun _ => none)))))), (q_4, .inl (cA_5, 10, .inr (.inr (.inr (.inr (fun _ => none)))))), (q_7, .inl (cA_8, 24, .inr (.inr (.inr (.inr (fun _ => none)))))), (q_10, .inl (cA_11, 144, .inr (.inr (.inr (.inr (fun _ => none)))))), (q_13, .inr (9, [.ref x_17, .int 0])), (q_18, .inr (9, [.ref x_22, .int 0])), (q_23, .inl (cA_24, 3, .inr (.inr (.inr (.inr (fun _ => none)))))), (q_26, .inr (6, [.ref x_30, .int 0, .int 0, .int 0, .int 0, .null])), (q_31, .inr (2, [.null, .long 0, .long 0])), (q_35, .inr (6, [.ref x_39, .int 0, .int 0, .int 0, .int 0, .null])), (q_40, .inr (6, [.ref x_44, .int 0, .int 0, .int 0, .int 0, .null]))]) (w1 := [(q_45, .inr (6, [.ref x_49, .int 0, .int 0, .int 0, .int 0, .null]))]) hP hD [12] [0, 1, 2, 3, 4, 5, 6, 7, 8, 9, 10, 11] rfl rfl (by decide +kernel) (by decide +kernel) hk1 hFc hP1 hD1
  generalize H1 = H at hP hS ⊢
  have hP : va_P (dC, dI) vwCl [(h0, .inr (11, [.ref q_1, .ref q_4, .ref q_7, .ref q_10, .ref q_13, .ref q_18, .ref q_23, .ref q_26, .ref q_31, .int 0, .int 0, .int 0, .int 0, .ref q_35, .ref q_40, .null, .int 0, .int 0, .int 0, .int 0])), (q_1, .inl (cA_2, 12, .inr (.inr (.inr (.inr (fun _ => none)))))), (q_4, .inl (cA_5, 10, .inr (.inr (.inr (.inr (fun _ => none)))))), (q_7, .inl (cA_8, 24, .inr (.inr (.inr (.inr (fun _ => none)))))), (q_10, .inl (cA_11, 144, .inr (.inr (.inr (.inr (fun _ => none)))))), (q_13, .inr (9, [.ref x_17, .int 0])), (q_18, .inr (9, [.ref x_22, .int 0])), (q_23, .inl (cA_24, 3, .inr (.inr (.inr (.inr (fun _ => none)))))), (q_26, .inr (6, [.ref x_30, .int 0, .int 0, .int 0, .int 0, .null])), (q_31, .inr (2, [.null, .long 0, .long 0])), (q_35, .inr (6, [.ref x_39, .int 0, .int 0, .int 0, .int 0, .null])), (q_40, .inr (6, [.ref x_44, .int 0, .int 0, .int 0, .int 0, .null])), (q_45, .inr (6, [.ref x_49, .int 0, .int 0, .int 0, .int 0, .null]))] H := hP
  have hD : va_D A [(h0, .inr (11, [.ref q_1, .ref q_4, .ref q_7, .ref q_10, .ref q_13, .ref q_18, .ref q_23, .ref q_26, .ref q_31, .int 0, .int 0, .int 0, .int 0, .ref q_35, .ref q_40, .null, .int 0, .int 0, .int 0, .int 0])), (q_1, .inl (cA_2, 12, .inr (.inr (.inr (.inr (fun _ => none)))))), (q_4, .inl (cA_5, 10, .inr (.inr (.inr (.inr (fun _ => none)))))), (q_7, .inl (cA_8, 24, .inr (.inr (.inr (.inr (fun _ => none)))))), (q_10, .inl (cA_11, 144, .inr (.inr (.inr (.inr (fun _ => none)))))), (q_13, .inr (9, [.ref x_17, .int 0])), (q_18, .inr (9, [.ref x_22, .int 0])), (q_23, .inl (cA_24, 3, .inr (.inr (.inr (.inr (fun _ => none)))))), (q_26, .inr (6, [.ref x_30, .int 0, .int 0, .int 0, .int 0, .null])), (q_31, .inr (2, [.null, .long 0, .long 0])), (q_35, .inr (6, [.ref x_39, .int 0, .int 0, .int 0, .int 0, .null])), (q_40, .inr (6, [.ref x_44, .int 0, .int 0, .int 0, .int 0, .null])), (q_45, .inr (6, [.ref x_49, .int 0, .int 0, .int 0, .int 0, .null]))] := hD
  refine W.widen (k := 18) (n := 9492) (by decide +kernel) (by decide +kernel) ?_
  refine va_put (D := (dC, dI)) (ci := 11) (v := .ref q_45) (ty := .object "SixNet$Packet") (C := RX11) (T := TX11) (N := 20) hx hb hts (fun w h => List.mem_cons_of_mem _ (List.mem_append_right _ (List.mem_append_left _ h))) tyX11 tyX11_ok nmX11 hown hK hP hD hS 0 rfl rfl 15 (by decide +kernel) (hts (.fieldLink RX11 69 "SixNet" "going" "LSixNet$Packet;") (List.mem_cons_of_mem _ (List.mem_append_left _ (List.mem_of_getElem? (i := 32) rfl)))) (fun _ h9 => h9) rfl (by decide +kernel) rfl rfl (Nat.le_of_ble_eq_true rfl) dX11_init_139 (fun H locs hP hD hS => ?_)
  have hP : va_P (dC, dI) vwCl [(h0, .inr (11, [.ref q_1, .ref q_4, .ref q_7, .ref q_10, .ref q_13, .ref q_18, .ref q_23, .ref q_26, .ref q_31, .int 0, .int 0, .int 0, .int 0, .ref q_35, .ref q_40, .ref q_45, .int 0, .int 0, .int 0, .int 0])), (q_1, .inl (cA_2, 12, .inr (.inr (.inr (.inr (fun _ => none)))))), (q_4, .inl (cA_5, 10, .inr (.inr (.inr (.inr (fun _ => none)))))), (q_7, .inl (cA_8, 24, .inr (.inr (.inr (.inr (fun _ => none)))))), (q_10, .inl (cA_11, 144, .inr (.inr (.inr (.inr (fun _ => none)))))), (q_13, .inr (9, [.ref x_17, .int 0])), (q_18, .inr (9, [.ref x_22, .int 0])), (q_23, .inl (cA_24, 3, .inr (.inr (.inr (.inr (fun _ => none)))))), (q_26, .inr (6, [.ref x_30, .int 0, .int 0, .int 0, .int 0, .null])), (q_31, .inr (2, [.null, .long 0, .long 0])), (q_35, .inr (6, [.ref x_39, .int 0, .int 0, .int 0, .int 0, .null])), (q_40, .inr (6, [.ref x_44, .int 0, .int 0, .int 0, .int 0, .null])), (q_45, .inr (6, [.ref x_49, .int 0, .int 0, .int 0, .int 0, .null]))] H := hP
  have hD : va_D A [(h0, .inr (11, [.ref q_1, .ref q_4, .ref q_7, .ref q_10, .ref q_13, .ref q_18, .ref q_23, .ref q_26, .ref q_31, .int 0, .int 0, .int 0, .int 0, .ref q_35, .ref q_40, .ref q_45, .int 0, .int 0, .int 0, .int 0])), (q_1, .inl (cA_2, 12, .inr (.inr (.inr (.inr (fun _ => none)))))), (q_4, .inl (cA_5, 10, .inr (.inr (.inr (.inr (fun _ => none)))))), (q_7, .inl (cA_8, 24, .inr (.inr (.inr (.inr (fun _ => none)))))), (q_10, .inl (cA_11, 144, .inr (.inr (.inr (.inr (fun _ => none)))))), (q_13, .inr (9, [.ref x_17, .int 0])), (q_18, .inr (9, [.ref x_22, .int 0])), (q_23, .inl (cA_24, 3, .inr (.inr (.inr (.inr (fun _ => none)))))), (q_26, .inr (6, [.ref x_30, .int 0, .int 0, .int 0, .int 0, .null])), (q_31, .inr (2, [.null, .long 0, .long 0])), (q_35, .inr (6, [.ref x_39, .int 0, .int 0, .int 0, .int 0, .null])), (q_40, .inr (6, [.ref x_44, .int 0, .int 0, .int 0, .int 0, .null])), (q_45, .inr (6, [.ref x_49, .int 0, .int 0, .int 0, .int 0, .null]))] := hD
  have hP9 := hP.sub (ws' := [(h0, .inr (11, [.ref q_1, .ref q_4, .ref q_7, .ref q_10, .ref q_13, .ref q_18, .ref q_23, .ref q_26, .ref q_31, .int 0, .int 0, .int 0, .int 0, .ref q_35, .ref q_40, .ref q_45, .int 0, .int 0, .int 0, .int 0])), (q_1, .inl (cA_2, 12, .inr (.inr (.inr (.inr (fun _ => none)))))), (q_4, .inl (cA_5, 10, .inr (.inr (.inr (.inr (fun _ => none)))))), (q_13, .inr (9, [.ref x_17, .int 0])), (q_18, .inr (9, [.ref x_22, .int 0]))]) [0, 1, 2, 5, 6] rfl
  have hD9 := hD.sub (ws' := [(h0, .inr (11, [.ref q_1, .ref q_4, .ref q_7, .ref q_10, .ref q_13, .ref q_18, .ref q_23, .ref q_26, .ref q_31, .int 0, .int 0, .int 0, .int 0, .ref q_35, .ref q_40, .ref q_45, .int 0, .int 0, .int 0, .int 0])), (q_1, .inl (cA_2, 12, .inr (.inr (.inr (.inr (fun _ => none)))))), (q_4, .inl (cA_5, 10, .inr (.inr (.inr (.inr (fun _ => none)))))), (q_13, .inr (9, [.ref x_17, .int 0])), (q_18, .inr (9, [.ref x_22, .int 0]))]) [0, 1, 2, 5, 6] (by decide +kernel) rfl
  have hK9 := hK.sub (tys' := [(cA_2, .object RX5), (cA_5, .object RX3)]) [0, 1] rfl
  exact W.vret hx hb hr (fun t ht hW => ⟨⟨(), rfl, trivial, q_1, q_4, q_7, q_10, q_13, q_18, q_23, q_26, q_31, q_35, q_40, q_45, cA_2, cA_5, x_17, x_22, by rw [ht]; exact hP9, va_K.moved hW.alike hK9, hD9⟩, hS.F ht⟩) hS.2.2 dX11_init_142
def wq_X11_refuse_o : List Cond := [.fieldLink RX11 266 "SixNet" "status" "I"]
def wq_X11_refuse : List Cond := .code yX11_refuse cX11_refuse 2 (some .int) :: (wq_X11_refuse_o ++ (wsX110 ++ ([])))
set_option maxRecDepth 20000 in
theorem gt_wq_X11_refuse : GoodIn lw_tbl wq_X11_refuse := goodIn_ca (goodIn_p (.code yX11_refuse cX11_refuse 2 (some .int) :: wq_X11_refuse_o) [302] (by decide +kernel) (by decide +kernel)) (goodIn_app gt_wsX110 (fun _ h => absurd h List.not_mem_nil))
set_option maxHeartbeats 4000000 in
set_option maxRecDepth 100000 in
theorem k_X11_refuse (l : Launch) (dC : Nat → ClassId) (dI : Nat → Nat → Nat) (sz : Nat) (h0 : Nat) (f0 : Value) (f1 : Value) (f2 : Value) (f3 : Value) (f4 : Value) (f5 : Value) (f6 : Value) (f7 : Value) (f8 : Value) (f9 : Value) (f10 : Value) (f11 : Value) (f12 : Value) (f13 : Value) (f14 : Value) (f15 : Value) (f16 : Value) (f17 : Value) (f18 : Value) (f19 : Value) (k : Int32) : Met l yX11_refuse wq_X11_refuse ({ frames := 4, cells := 0, slots := 0, locals := 200 }) (va_Pc [.ref h0, .int k] (fun U => U.heap.size = sz ∧ va_P (dC, dI) vwCl [(h0, .inr (11, [f0, f1, f2, f3, f4, f5, f6, f7, f8, f9, f10, f11, f12, f13, f14, f15, f16, f17, f18, f19]))] U.heap ∧ va_K (dC, dI) vwCl [] U ∧ va_D (fun _ => True) [(h0, .inr (11, [f0, f1, f2, f3, f4, f5, f6, f7, f8, f9, f10, f11, f12, f13, f14, f15, f16, f17, f18, f19]))])) (va_Qi (fun (r : Int32) (_ : Unit) => r = -1) (fun (_ : Unit) (t : State) => va_P (dC, dI) vwCl [(h0, .inr (11, [f0, f1, f2, f3, f4, f5, f6, f7, f8, f9, f10, f11, f12, f13, f14, f15, f16, f17, f18, .int k]))] t.heap ∧ va_K (dC, dI) vwCl [] t ∧ va_D (va_A [(h0, .inr (11, [f0, f1, f2, f3, f4, f5, f6, f7, f8, f9, f10, f11, f12, f13, f14, f15, f16, f17, f18, f19]))] sz) [(h0, .inr (11, [f0, f1, f2, f3, f4, f5, f6, f7, f8, f9, f10, f11, f12, f13, f14, f15, f16, f17, f18, .int k]))]) (va_A [(h0, .inr (11, [f0, f1, f2, f3, f4, f5, f6, f7, f8, f9, f10, f11, f12, f13, f14, f15, f16, f17, f18, f19]))] sz)) 0 0 (va_A [(h0, .inr (11, [f0, f1, f2, f3, f4, f5, f6, f7, f8, f9, f10, f11, f12, f13, f14, f15, f16, f17, f18, f19]))] sz) := by
  refine Met.ofW (cc := cX11_refuse) (maxL := 2) (ret := (some .int)) (by decide +kernel) rfl ?_
  intro p e s m args below meth c s₁ B hml hv
  obtain ⟨rfl, hsz, hP, hK, hD0⟩ := hv
  have hx := B.exec
  have hb := B.bytes
  have hr := B.returns
  have hts := atoms_spec (ws := wq_X11_refuse) B.pre
  have hown : s.vm.findClass RX11 = some m.cls := findClass_of_methodNamed B.named
  have hlocks := B.notSynchronized
  subst hsz
  have hD := hD0.self (sz := s.heap.size)
  generalize hAe : va_A [(h0, .inr (11, [f0, f1, f2, f3, f4, f5, f6, f7, f8, f9, f10, f11, f12, f13, f14, f15, f16, f17, f18, f19]))] s.heap.size = A at hD ⊢
  have hA : ∀ q : Nat, s.heap.size ≤ q → A q := fun q h => by rw [← hAe]; exact Or.inr h
  have hS : va_S A s.heap s.heap [] := va_S.rf
  have hP : va_P (dC, dI) vwCl [(h0, .inr (11, [f0, f1, f2, f3, f4, f5, f6, f7, f8, f9, f10, f11, f12, f13, f14, f15, f16, f17, f18, f19]))] s.heap := hP
  have hl := lv_entry ([.ref h0, .int k]) (n := 2) (Nat.le_of_ble_eq_true rfl)
  rw [lg_entry_eq]
  generalize (lg_sl ([.ref h0, .int k]) ++ List.replicate (2 - (lg_sl ([.ref h0, .int k])).length) Slot.unset).toArray = ls at hl ⊢
  have hl : lv_has ls 2 [(0, .ref h0), (1, .int k)] := hl
  refine lv_aload_n hx hb dX11_refuse_0 rfl (lv_at hl 0 rfl) ?_
  refine lv_iload_n hx hb dX11_refuse_1 rfl (lv_at hl 1 rfl) ?_
  refine va_put (D := (dC, dI)) (ci := 11) (v := .int k) (ty := .int) (C := RX11) (T := TX11) (N := 20) hx hb hts (fun w h => List.mem_cons_of_mem _ (List.mem_append_right _ (List.mem_append_left _ h))) tyX11 tyX11_ok nmX11 hown hK hP hD hS 0 rfl rfl 19 (by decide +kernel) (hts (.fieldLink RX11 266 "SixNet" "status" "I") (List.mem_cons_of_mem _ (List.mem_append_left _ (List.mem_of_getElem? (i := 0) rfl)))) (fun _ h9 => h9) rfl (by decide +kernel) rfl rfl (Nat.le_of_ble_eq_true rfl) dX11_refuse_2 (fun H locs hP hD hS => ?_)
  have hP : va_P (dC, dI) vwCl [(h0, .inr (11, [f0, f1, f2, f3, f4, f5, f6, f7, f8, f9, f10, f11, f12, f13, f14, f15, f16, f17, f18, .int k]))] H := hP
  have hD : va_D A [(h0, .inr (11, [f0, f1, f2, f3, f4, f5, f6, f7, f8, f9, f10, f11, f12, f13, f14, f15, f16, f17, f18, .int k]))] := hD
  refine lv_iconst (v := (-1)) hx hb dX11_refuse_5 (by decide +kernel) ?_
  have hP9 := hP.sub (ws' := [(h0, .inr (11, [f0, f1, f2, f3, f4, f5, f6, f7, f8, f9, f10, f11, f12, f13, f14, f15, f16, f17, f18, .int k]))]) [0] rfl
  have hD9 := hD.sub (ws' := [(h0, .inr (11, [f0, f1, f2, f3, f4, f5, f6, f7, f8, f9, f10, f11, f12, f13, f14, f15, f16, f17, f18, .int k]))]) [0] (by decide +kernel) rfl
  have hK9 := hK.sub (tys' := []) [] rfl
  exact W.iret (v := (-1)) hx hb hr (fun t ht hW => ⟨⟨(-1), (), rfl, rfl, by rw [ht]; exact hP9, va_K.moved hW.alike hK9, hD9⟩, hS.F ht⟩) hS.2.2 dX11_refuse_6
def wq_X11_answer_o : List Cond := [.fieldLink RX11 266 "SixNet" "status" "I"]
def wq_X11_answer : List Cond := .code yX11_answer cX11_answer 2 (some .int) :: (wq_X11_answer_o ++ (wsX110 ++ ([])))
set_option maxRecDepth 20000 in
theorem gt_wq_X11_answer : GoodIn lw_tbl wq_X11_answer := goodIn_ca (goodIn_p (.code yX11_answer cX11_answer 2 (some .int) :: wq_X11_answer_o) [397] (by decide +kernel) (by decide +kernel)) (goodIn_app gt_wsX110 (fun _ h => absurd h List.not_mem_nil))
set_option maxHeartbeats 4000000 in
set_option maxRecDepth 100000 in
theorem k_X11_answer (l : Launch) (dC : Nat → ClassId) (dI : Nat → Nat → Nat) (sz : Nat) (h0 : Nat) (f0 : Value) (f1 : Value) (f2 : Value) (f3 : Value) (f4 : Value) (f5 : Value) (f6 : Value) (f7 : Value) (f8 : Value) (f9 : Value) (f10 : Value) (f11 : Value) (f12 : Value) (f13 : Value) (f14 : Value) (f15 : Value) (f16 : Value) (f17 : Value) (f18 : Value) (f19 : Value) (k : Int32) : Met l yX11_answer wq_X11_answer ({ frames := 4, cells := 0, slots := 0, locals := 200 }) (va_Pc [.ref h0, .int k] (fun U => U.heap.size = sz ∧ va_P (dC, dI) vwCl [(h0, .inr (11, [f0, f1, f2, f3, f4, f5, f6, f7, f8, f9, f10, f11, f12, f13, f14, f15, f16, f17, f18, f19]))] U.heap ∧ va_K (dC, dI) vwCl [] U ∧ va_D (fun _ => True) [(h0, .inr (11, [f0, f1, f2, f3, f4, f5, f6, f7, f8, f9, f10, f11, f12, f13, f14, f15, f16, f17, f18, f19]))])) (va_Qi (fun (r : Int32) (_ : Unit) => r = k) (fun (_ : Unit) (t : State) => va_P (dC, dI) vwCl [(h0, .inr (11, [f0, f1, f2, f3, f4, f5, f6, f7, f8, f9, f10, f11, f12, f13, f14, f15, f16, f17, f18, .int 0]))] t.heap ∧ va_K (dC, dI) vwCl [] t ∧ va_D (va_A [(h0, .inr (11, [f0, f1, f2, f3, f4, f5, f6, f7, f8, f9, f10, f11, f12, f13, f14, f15, f16, f17, f18, f19]))] sz) [(h0, .inr (11, [f0, f1, f2, f3, f4, f5, f6, f7, f8, f9, f10, f11, f12, f13, f14, f15, f16, f17, f18, .int 0]))]) (va_A [(h0, .inr (11, [f0, f1, f2, f3, f4, f5, f6, f7, f8, f9, f10, f11, f12, f13, f14, f15, f16, f17, f18, f19]))] sz)) 0 0 (va_A [(h0, .inr (11, [f0, f1, f2, f3, f4, f5, f6, f7, f8, f9, f10, f11, f12, f13, f14, f15, f16, f17, f18, f19]))] sz) := by
  refine Met.ofW (cc := cX11_answer) (maxL := 2) (ret := (some .int)) (by decide +kernel) rfl ?_
  intro p e s m args below meth c s₁ B hml hv
  obtain ⟨rfl, hsz, hP, hK, hD0⟩ := hv
  have hx := B.exec
  have hb := B.bytes
  have hr := B.returns
  have hts := atoms_spec (ws := wq_X11_answer) B.pre
  have hown : s.vm.findClass RX11 = some m.cls := findClass_of_methodNamed B.named
  have hlocks := B.notSynchronized
  subst hsz
  have hD := hD0.self (sz := s.heap.size)
  generalize hAe : va_A [(h0, .inr (11, [f0, f1, f2, f3, f4, f5, f6, f7, f8, f9, f10, f11, f12, f13, f14, f15, f16, f17, f18, f19]))] s.heap.size = A at hD ⊢
  have hA : ∀ q : Nat, s.heap.size ≤ q → A q := fun q h => by rw [← hAe]; exact Or.inr h
  have hS : va_S A s.heap s.heap [] := va_S.rf
  have hP : va_P (dC, dI) vwCl [(h0, .inr (11, [f0, f1, f2, f3, f4, f5, f6, f7, f8, f9, f10, f11, f12, f13, f14, f15, f16, f17, f18, f19]))] s.heap := hP
  have hl := lv_entry ([.ref h0, .int k]) (n := 2) (Nat.le_of_ble_eq_true rfl)
  rw [lg_entry_eq]
  generalize (lg_sl ([.ref h0, .int k]) ++ List.replicate (2 - (lg_sl ([.ref h0, .int k])).length) Slot.unset).toArray = ls at hl ⊢
  have hl : lv_has ls 2 [(0, .ref h0), (1, .int k)] := hl
  refine lv_aload_n hx hb dX11_answer_0 rfl (lv_at hl 0 rfl) ?_
  refine lv_iconst (v := 0) hx hb dX11_answer_1 (by decide +kernel) ?_
  refine va_put (D := (dC, dI)) (ci := 11) (v := .int 0) (ty := .int) (C := RX11) (T := TX11) (N := 20) hx hb hts (fun w h => List.mem_cons_of_mem _ (List.mem_append_right _ (List.mem_append_left _ h))) tyX11 tyX11_ok nmX11 hown hK hP hD hS 0 rfl rfl 19 (by decide +kernel) (hts (.fieldLink RX11 266 "SixNet" "status" "I") (List.mem_cons_of_mem _ (List.mem_append_left _ (List.mem_of_getElem? (i := 0) rfl)))) (fun _ h9 => h9) rfl (by decide +kernel) rfl rfl (Nat.le_of_ble_eq_true rfl) dX11_answer_2 (fun H locs hP hD hS => ?_)
  have hP : va_P (dC, dI) vwCl [(h0, .inr (11, [f0, f1, f2, f3, f4, f5, f6, f7, f8, f9, f10, f11, f12, f13, f14, f15, f16, f17, f18, .int 0]))] H := hP
  have hD : va_D A [(h0, .inr (11, [f0, f1, f2, f3, f4, f5, f6, f7, f8, f9, f10, f11, f12, f13, f14, f15, f16, f17, f18, .int 0]))] := hD
  refine lv_iload_n hx hb dX11_answer_5 rfl (lv_at hl 1 rfl) ?_
  have hP9 := hP.sub (ws' := [(h0, .inr (11, [f0, f1, f2, f3, f4, f5, f6, f7, f8, f9, f10, f11, f12, f13, f14, f15, f16, f17, f18, .int 0]))]) [0] rfl
  have hD9 := hD.sub (ws' := [(h0, .inr (11, [f0, f1, f2, f3, f4, f5, f6, f7, f8, f9, f10, f11, f12, f13, f14, f15, f16, f17, f18, .int 0]))]) [0] (by decide +kernel) rfl
  have hK9 := hK.sub (tys' := []) [] rfl
  exact W.iret (v := k) hx hb hr (fun t ht hW => ⟨⟨k, (), rfl, rfl, by rw [ht]; exact hP9, va_K.moved hW.alike hK9, hD9⟩, hS.F ht⟩) hS.2.2 dX11_answer_6
def wq_X11_nodeAt_o : List Cond := [.fieldLink RX11 72 "SixNet" "nodeCount" "I"]
def wq_X11_nodeAt : List Cond := .code yX11_nodeAt cX11_nodeAt 2 (some (.object "SixNet$Node")) :: (wq_X11_nodeAt_o ++ (wsX110 ++ ([])))
set_option maxRecDepth 20000 in
theorem gt_wq_X11_nodeAt : GoodIn lw_tbl wq_X11_nodeAt := goodIn_ca (goodIn_p (.code yX11_nodeAt cX11_nodeAt 2 (some (.object "SixNet$Node")) :: wq_X11_nodeAt_o) [436] (by decide +kernel) (by decide +kernel)) (goodIn_app gt_wsX110 (fun _ h => absurd h List.not_mem_nil))
set_option maxHeartbeats 4000000 in
set_option maxRecDepth 100000 in
theorem k_X11_nodeAt (l : Launch) (dC : Nat → ClassId) (dI : Nat → Nat → Nat) (sz : Nat) (h0 : Nat) (f0 : Value) (f1 : Value) (f2 : Value) (f3 : Value) (f4 : Value) (f5 : Value) (f6 : Value) (f7 : Value) (f8 : Value) (f10 : Value) (f11 : Value) (f12 : Value) (f13 : Value) (f14 : Value) (f15 : Value) (f16 : Value) (f17 : Value) (f18 : Value) (f19 : Value) (k : Int32) : Met l yX11_nodeAt wq_X11_nodeAt ({ frames := 4, cells := 0, slots := 0, locals := 200 }) (va_Pc [.ref h0, .int k] (fun U => U.heap.size = sz ∧ va_P (dC, dI) vwCl [(h0, .inr (11, [f0, f1, f2, f3, f4, f5, f6, f7, f8, .int 0, f10, f11, f12, f13, f14, f15, f16, f17, f18, f19]))] U.heap ∧ va_K (dC, dI) vwCl [] U ∧ va_D (fun _ => True) [(h0, .inr (11, [f0, f1, f2, f3, f4, f5, f6, f7, f8, .int 0, f10, f11, f12, f13, f14, f15, f16, f17, f18, f19]))])) (va_Qq (fun (r : Option Nat) (_ : Unit) => r = none) (fun (_ : Unit) (t : State) => va_P (dC, dI) vwCl [(h0, .inr (11, [f0, f1, f2, f3, f4, f5, f6, f7, f8, .int 0, f10, f11, f12, f13, f14, f15, f16, f17, f18, f19]))] t.heap ∧ va_K (dC, dI) vwCl [] t ∧ va_D (va_A [(h0, .inr (11, [f0, f1, f2, f3, f4, f5, f6, f7, f8, .int 0, f10, f11, f12, f13, f14, f15, f16, f17, f18, f19]))] sz) [(h0, .inr (11, [f0, f1, f2, f3, f4, f5, f6, f7, f8, .int 0, f10, f11, f12, f13, f14, f15, f16, f17, f18, f19]))]) (va_A [(h0, .inr (11, [f0, f1, f2, f3, f4, f5, f6, f7, f8, .int 0, f10, f11, f12, f13, f14, f15, f16, f17, f18, f19]))] sz)) 0 0 (va_A [(h0, .inr (11, [f0, f1, f2, f3, f4, f5, f6, f7, f8, .int 0, f10, f11, f12, f13, f14, f15, f16, f17, f18, f19]))] sz) := by
  refine Met.ofW (cc := cX11_nodeAt) (maxL := 2) (ret := (some (.object "SixNet$Node"))) (by decide +kernel) rfl ?_
  intro p e s m args below meth c s₁ B hml hv
  obtain ⟨rfl, hsz, hP, hK, hD0⟩ := hv
  have hx := B.exec
  have hb := B.bytes
  have hr := B.returns
  have hts := atoms_spec (ws := wq_X11_nodeAt) B.pre
  have hown : s.vm.findClass RX11 = some m.cls := findClass_of_methodNamed B.named
  have hlocks := B.notSynchronized
  subst hsz
  have hD := hD0.self (sz := s.heap.size)
  generalize hAe : va_A [(h0, .inr (11, [f0, f1, f2, f3, f4, f5, f6, f7, f8, .int 0, f10, f11, f12, f13, f14, f15, f16, f17, f18, f19]))] s.heap.size = A at hD ⊢
  have hA : ∀ q : Nat, s.heap.size ≤ q → A q := fun q h => by rw [← hAe]; exact Or.inr h
  have hS : va_S A s.heap s.heap [] := va_S.rf
  have hP : va_P (dC, dI) vwCl [(h0, .inr (11, [f0, f1, f2, f3, f4, f5, f6, f7, f8, .int 0, f10, f11, f12, f13, f14, f15, f16, f17, f18, f19]))] s.heap := hP
  have hl := lv_entry ([.ref h0, .int k]) (n := 2) (Nat.le_of_ble_eq_true rfl)
  rw [lg_entry_eq]
  generalize (lg_sl ([.ref h0, .int k]) ++ List.replicate (2 - (lg_sl ([.ref h0, .int k])).length) Slot.unset).toArray = ls at hl ⊢
  have hl : lv_has ls 2 [(0, .ref h0), (1, .int k)] := hl
  refine lv_iload_n hx hb dX11_nodeAt_0 rfl (lv_at hl 1 rfl) ?_
  refine lv_if_lt (tgt := 27) hx hb dX11_nodeAt_1 (by decide +kernel) (fun c_1 => ?_) (fun c_1 => ?_)
  · refine lv_null hx hb dX11_nodeAt_27 ?_
    have hP9 := hP.sub (ws' := [(h0, .inr (11, [f0, f1, f2, f3, f4, f5, f6, f7, f8, .int 0, f10, f11, f12, f13, f14, f15, f16, f17, f18, f19]))]) [0] rfl
    have hD9 := hD.sub (ws' := [(h0, .inr (11, [f0, f1, f2, f3, f4, f5, f6, f7, f8, .int 0, f10, f11, f12, f13, f14, f15, f16, f17, f18, f19]))]) [0] (by decide +kernel) rfl
    have hK9 := hK.sub (tys' := []) [] rfl
    exact W.aret (v := .null) hx hb hr (Or.inl ⟨_, rfl⟩) (Or.inl rfl) (fun t ht hW => ⟨⟨none, (), rfl, rfl, by rw [ht]; exact hP9, va_K.moved hW.alike hK9, hD9⟩, hS.F ht⟩) hS.2.2 dX11_nodeAt_28
  · refine lv_iload_n hx hb dX11_nodeAt_4 rfl (lv_at hl 1 rfl) ?_
    refine lv_aload_n hx hb dX11_nodeAt_5 rfl (lv_at hl 0 rfl) ?_
    refine va_get (D := (dC, dI)) (ci := 11) (v := .int 0) (C := RX11) (T := TX11) (N := 20) hx hb hts (fun w h => List.mem_cons_of_mem _ (List.mem_append_right _ (List.mem_append_left _ h))) hown hK hP 0 rfl rfl 9 (by decide +kernel) (hts (.fieldLink RX11 72 "SixNet" "nodeCount" "I") (List.mem_cons_of_mem _ (List.mem_append_left _ (List.mem_of_getElem? (i := 0) rfl)))) (fun _ h9 => h9) rfl dX11_nodeAt_6 ?_
    refine lv_icmp_ge (tgt := 27) hx hb dX11_nodeAt_9 (by decide +kernel) (fun c_2 => ?_) (fun c_2 => ?_)
    · refine lv_null hx hb dX11_nodeAt_27 ?_
      have hP9 := hP.sub (ws' := [(h0, .inr (11, [f0, f1, f2, f3, f4, f5, f6, f7, f8, .int 0, f10, f11, f12, f13, f14, f15, f16, f17, f18, f19]))]) [0] rfl
      have hD9 := hD.sub (ws' := [(h0, .inr (11, [f0, f1, f2, f3, f4, f5, f6, f7, f8, .int 0, f10, f11, f12, f13, f14, f15, f16, f17, f18, f19]))]) [0] (by decide +kernel) rfl
      have hK9 := hK.sub (tys' := []) [] rfl
      exact W.aret (v := .null) hx hb hr (Or.inl ⟨_, rfl⟩) (Or.inl rfl) (fun t ht hW => ⟨⟨none, (), rfl, rfl, by rw [ht]; exact hP9, va_K.moved hW.alike hK9, hD9⟩, hS.F ht⟩) hS.2.2 dX11_nodeAt_28
    · exact absurd (Int32.not_lt.mp c_1) c_2
def wq_X11_linkAt_o : List Cond := [.fieldLink RX11 90 "SixNet" "linkCount" "I"]
def wq_X11_linkAt : List Cond := .code yX11_linkAt cX11_linkAt 2 (some (.object "SixNet$Link")) :: (wq_X11_linkAt_o ++ (wsX110 ++ ([])))
set_option maxRecDepth 20000 in
theorem gt_wq_X11_linkAt : GoodIn lw_tbl wq_X11_linkAt := goodIn_ca (goodIn_p (.code yX11_linkAt cX11_linkAt 2 (some (.object "SixNet$Link")) :: wq_X11_linkAt_o) [440] (by decide +kernel) (by decide +kernel)) (goodIn_app gt_wsX110 (fun _ h => absurd h List.not_mem_nil))
set_option maxHeartbeats 4000000 in
set_option maxRecDepth 100000 in
theorem k_X11_linkAt (l : Launch) (dC : Nat → ClassId) (dI : Nat → Nat → Nat) (sz : Nat) (h0 : Nat) (f0 : Value) (f1 : Value) (f2 : Value) (f3 : Value) (f4 : Value) (f5 : Value) (f6 : Value) (f7 : Value) (f8 : Value) (f9 : Value) (f11 : Value) (f12 : Value) (f13 : Value) (f14 : Value) (f15 : Value) (f16 : Value) (f17 : Value) (f18 : Value) (f19 : Value) (k : Int32) : Met l yX11_linkAt wq_X11_linkAt ({ frames := 4, cells := 0, slots := 0, locals := 200 }) (va_Pc [.ref h0, .int k] (fun U => U.heap.size = sz ∧ va_P (dC, dI) vwCl [(h0, .inr (11, [f0, f1, f2, f3, f4, f5, f6, f7, f8, f9, .int 0, f11, f12, f13, f14, f15, f16, f17, f18, f19]))] U.heap ∧ va_K (dC, dI) vwCl [] U ∧ va_D (fun _ => True) [(h0, .inr (11, [f0, f1, f2, f3, f4, f5, f6, f7, f8, f9, .int 0, f11, f12, f13, f14, f15, f16, f17, f18, f19]))])) (va_Qq (fun (r : Option Nat) (_ : Unit) => r = none) (fun (_ : Unit) (t : State) => va_P (dC, dI) vwCl [(h0, .inr (11, [f0, f1, f2, f3, f4, f5, f6, f7, f8, f9, .int 0, f11, f12, f13, f14, f15, f16, f17, f18, f19]))] t.heap ∧ va_K (dC, dI) vwCl [] t ∧ va_D (va_A [(h0, .inr (11, [f0, f1, f2, f3, f4, f5, f6, f7, f8, f9, .int 0, f11, f12, f13, f14, f15, f16, f17, f18, f19]))] sz) [(h0, .inr (11, [f0, f1, f2, f3, f4, f5, f6, f7, f8, f9, .int 0, f11, f12, f13, f14, f15, f16, f17, f18, f19]))]) (va_A [(h0, .inr (11, [f0, f1, f2, f3, f4, f5, f6, f7, f8, f9, .int 0, f11, f12, f13, f14, f15, f16, f17, f18, f19]))] sz)) 0 0 (va_A [(h0, .inr (11, [f0, f1, f2, f3, f4, f5, f6, f7, f8, f9, .int 0, f11, f12, f13, f14, f15, f16, f17, f18, f19]))] sz) := by
  refine Met.ofW (cc := cX11_linkAt) (maxL := 2) (ret := (some (.object "SixNet$Link"))) (by decide +kernel) rfl ?_
  intro p e s m args below meth c s₁ B hml hv
  obtain ⟨rfl, hsz, hP, hK, hD0⟩ := hv
  have hx := B.exec
  have hb := B.bytes
  have hr := B.returns
  have hts := atoms_spec (ws := wq_X11_linkAt) B.pre
  have hown : s.vm.findClass RX11 = some m.cls := findClass_of_methodNamed B.named
  have hlocks := B.notSynchronized
  subst hsz
  have hD := hD0.self (sz := s.heap.size)
  generalize hAe : va_A [(h0, .inr (11, [f0, f1, f2, f3, f4, f5, f6, f7, f8, f9, .int 0, f11, f12, f13, f14, f15, f16, f17, f18, f19]))] s.heap.size = A at hD ⊢
  have hA : ∀ q : Nat, s.heap.size ≤ q → A q := fun q h => by rw [← hAe]; exact Or.inr h
  have hS : va_S A s.heap s.heap [] := va_S.rf
  have hP : va_P (dC, dI) vwCl [(h0, .inr (11, [f0, f1, f2, f3, f4, f5, f6, f7, f8, f9, .int 0, f11, f12, f13, f14, f15, f16, f17, f18, f19]))] s.heap := hP
  have hl := lv_entry ([.ref h0, .int k]) (n := 2) (Nat.le_of_ble_eq_true rfl)
  rw [lg_entry_eq]
  generalize (lg_sl ([.ref h0, .int k]) ++ List.replicate (2 - (lg_sl ([.ref h0, .int k])).length) Slot.unset).toArray = ls at hl ⊢
  have hl : lv_has ls 2 [(0, .ref h0), (1, .int k)] := hl
  refine lv_iload_n hx hb dX11_linkAt_0 rfl (lv_at hl 1 rfl) ?_
  refine lv_if_lt (tgt := 27) hx hb dX11_linkAt_1 (by decide +kernel) (fun c_1 => ?_) (fun c_1 => ?_)
  · refine lv_null hx hb dX11_linkAt_27 ?_
    have hP9 := hP.sub (ws' := [(h0, .inr (11, [f0, f1, f2, f3, f4, f5, f6, f7, f8, f9, .int 0, f11, f12, f13, f14, f15, f16, f17, f18, f19]))]) [0] rfl
    have hD9 := hD.sub (ws' := [(h0, .inr (11, [f0, f1, f2, f3, f4, f5, f6, f7, f8, f9, .int 0, f11, f12, f13, f14, f15, f16, f17, f18, f19]))]) [0] (by decide +kernel) rfl
    have hK9 := hK.sub (tys' := []) [] rfl
    exact W.aret (v := .null) hx hb hr (Or.inl ⟨_, rfl⟩) (Or.inl rfl) (fun t ht hW => ⟨⟨none, (), rfl, rfl, by rw [ht]; exact hP9, va_K.moved hW.alike hK9, hD9⟩, hS.F ht⟩) hS.2.2 dX11_linkAt_28
  · refine lv_iload_n hx hb dX11_linkAt_4 rfl (lv_at hl 1 rfl) ?_
    refine lv_aload_n hx hb dX11_linkAt_5 rfl (lv_at hl 0 rfl) ?_
    refine va_get (D := (dC, dI)) (ci := 11) (v := .int 0) (C := RX11) (T := TX11) (N := 20) hx hb hts (fun w h => List.mem_cons_of_mem _ (List.mem_append_right _ (List.mem_append_left _ h))) hown hK hP 0 rfl rfl 10 (by decide +kernel) (hts (.fieldLink RX11 90 "SixNet" "linkCount" "I") (List.mem_cons_of_mem _ (List.mem_append_left _ (List.mem_of_getElem? (i := 0) rfl)))) (fun _ h9 => h9) rfl dX11_linkAt_6 ?_
    refine lv_icmp_ge (tgt := 27) hx hb dX11_linkAt_9 (by decide +kernel) (fun c_2 => ?_) (fun c_2 => ?_)
    · refine lv_null hx hb dX11_linkAt_27 ?_
      have hP9 := hP.sub (ws' := [(h0, .inr (11, [f0, f1, f2, f3, f4, f5, f6, f7, f8, f9, .int 0, f11, f12, f13, f14, f15, f16, f17, f18, f19]))]) [0] rfl
      have hD9 := hD.sub (ws' := [(h0, .inr (11, [f0, f1, f2, f3, f4, f5, f6, f7, f8, f9, .int 0, f11, f12, f13, f14, f15, f16, f17, f18, f19]))]) [0] (by decide +kernel) rfl
      have hK9 := hK.sub (tys' := []) [] rfl
      exact W.aret (v := .null) hx hb hr (Or.inl ⟨_, rfl⟩) (Or.inl rfl) (fun t ht hW => ⟨⟨none, (), rfl, rfl, by rw [ht]; exact hP9, va_K.moved hW.alike hK9, hD9⟩, hS.F ht⟩) hS.2.2 dX11_linkAt_28
    · exact absurd (Int32.not_lt.mp c_1) c_2
def wq_X11_faceAt_o : List Cond := [.fieldLink RX11 110 "SixNet" "faceCount" "I"]
def wq_X11_faceAt : List Cond := .code yX11_faceAt cX11_faceAt 2 (some (.object "SixNet$Face")) :: (wq_X11_faceAt_o ++ (wsX110 ++ ([])))
set_option maxRecDepth 20000 in
theorem gt_wq_X11_faceAt : GoodIn lw_tbl wq_X11_faceAt := goodIn_ca (goodIn_p (.code yX11_faceAt cX11_faceAt 2 (some (.object "SixNet$Face")) :: wq_X11_faceAt_o) [764] (by decide +kernel) (by decide +kernel)) (goodIn_app gt_wsX110 (fun _ h => absurd h List.not_mem_nil))
set_option maxHeartbeats 4000000 in
set_option maxRecDepth 100000 in
theorem k_X11_faceAt (l : Launch) (dC : Nat → ClassId) (dI : Nat → Nat → Nat) (sz : Nat) (h0 : Nat) (f0 : Value) (f1 : Value) (f2 : Value) (f3 : Value) (f4 : Value) (f5 : Value) (f6 : Value) (f7 : Value) (f8 : Value) (f9 : Value) (f10 : Value) (f12 : Value) (f13 : Value) (f14 : Value) (f15 : Value) (f16 : Value) (f17 : Value) (f18 : Value) (f19 : Value) (k : Int32) : Met l yX11_faceAt wq_X11_faceAt ({ frames := 4, cells := 0, slots := 0, locals := 200 }) (va_Pc [.ref h0, .int k] (fun U => U.heap.size = sz ∧ va_P (dC, dI) vwCl [(h0, .inr (11, [f0, f1, f2, f3, f4, f5, f6, f7, f8, f9, f10, .int 0, f12, f13, f14, f15, f16, f17, f18, f19]))] U.heap ∧ va_K (dC, dI) vwCl [] U ∧ va_D (fun _ => True) [(h0, .inr (11, [f0, f1, f2, f3, f4, f5, f6, f7, f8, f9, f10, .int 0, f12, f13, f14, f15, f16, f17, f18, f19]))])) (va_Qq (fun (r : Option Nat) (_ : Unit) => r = none) (fun (_ : Unit) (t : State) => va_P (dC, dI) vwCl [(h0, .inr (11, [f0, f1, f2, f3, f4, f5, f6, f7, f8, f9, f10, .int 0, f12, f13, f14, f15, f16, f17, f18, f19]))] t.heap ∧ va_K (dC, dI) vwCl [] t ∧ va_D (va_A [(h0, .inr (11, [f0, f1, f2, f3, f4, f5, f6, f7, f8, f9, f10, .int 0, f12, f13, f14, f15, f16, f17, f18, f19]))] sz) [(h0, .inr (11, [f0, f1, f2, f3, f4, f5, f6, f7, f8, f9, f10, .int 0, f12, f13, f14, f15, f16, f17, f18, f19]))]) (va_A [(h0, .inr (11, [f0, f1, f2, f3, f4, f5, f6, f7, f8, f9, f10, .int 0, f12, f13, f14, f15, f16, f17, f18, f19]))] sz)) 0 0 (va_A [(h0, .inr (11, [f0, f1, f2, f3, f4, f5, f6, f7, f8, f9, f10, .int 0, f12, f13, f14, f15, f16, f17, f18, f19]))] sz) := by
  refine Met.ofW (cc := cX11_faceAt) (maxL := 2) (ret := (some (.object "SixNet$Face"))) (by decide +kernel) rfl ?_
  intro p e s m args below meth c s₁ B hml hv
  obtain ⟨rfl, hsz, hP, hK, hD0⟩ := hv
  have hx := B.exec
  have hb := B.bytes
  have hr := B.returns
  have hts := atoms_spec (ws := wq_X11_faceAt) B.pre
  have hown : s.vm.findClass RX11 = some m.cls := findClass_of_methodNamed B.named
  have hlocks := B.notSynchronized
  subst hsz
  have hD := hD0.self (sz := s.heap.size)
  generalize hAe : va_A [(h0, .inr (11, [f0, f1, f2, f3, f4, f5, f6, f7, f8, f9, f10, .int 0, f12, f13, f14, f15, f16, f17, f18, f19]))] s.heap.size = A at hD ⊢
  have hA : ∀ q : Nat, s.heap.size ≤ q → A q := fun q h => by rw [← hAe]; exact Or.inr h
  have hS : va_S A s.heap s.heap [] := va_S.rf
  have hP : va_P (dC, dI) vwCl [(h0, .inr (11, [f0, f1, f2, f3, f4, f5, f6, f7, f8, f9, f10, .int 0, f12, f13, f14, f15, f16, f17, f18, f19]))] s.heap := hP
  have hl := lv_entry ([.ref h0, .int k]) (n := 2) (Nat.le_of_ble_eq_true rfl)
  rw [lg_entry_eq]
  generalize (lg_sl ([.ref h0, .int k]) ++ List.replicate (2 - (lg_sl ([.ref h0, .int k])).length) Slot.unset).toArray = ls at hl ⊢
  have hl : lv_has ls 2 [(0, .ref h0), (1, .int k)] := hl
  refine lv_iload_n hx hb dX11_faceAt_0 rfl (lv_at hl 1 rfl) ?_
  refine lv_if_lt (tgt := 27) hx hb dX11_faceAt_1 (by decide +kernel) (fun c_1 => ?_) (fun c_1 => ?_)
  · refine lv_null hx hb dX11_faceAt_27 ?_
    have hP9 := hP.sub (ws' := [(h0, .inr (11, [f0, f1, f2, f3, f4, f5, f6, f7, f8, f9, f10, .int 0, f12, f13, f14, f15, f16, f17, f18, f19]))]) [0] rfl
    have hD9 := hD.sub (ws' := [(h0, .inr (11, [f0, f1, f2, f3, f4, f5, f6, f7, f8, f9, f10, .int 0, f12, f13, f14, f15, f16, f17, f18, f19]))]) [0] (by decide +kernel) rfl
    have hK9 := hK.sub (tys' := []) [] rfl
    exact W.aret (v := .null) hx hb hr (Or.inl ⟨_, rfl⟩) (Or.inl rfl) (fun t ht hW => ⟨⟨none, (), rfl, rfl, by rw [ht]; exact hP9, va_K.moved hW.alike hK9, hD9⟩, hS.F ht⟩) hS.2.2 dX11_faceAt_28
  · refine lv_iload_n hx hb dX11_faceAt_4 rfl (lv_at hl 1 rfl) ?_
    refine lv_aload_n hx hb dX11_faceAt_5 rfl (lv_at hl 0 rfl) ?_
    refine va_get (D := (dC, dI)) (ci := 11) (v := .int 0) (C := RX11) (T := TX11) (N := 20) hx hb hts (fun w h => List.mem_cons_of_mem _ (List.mem_append_right _ (List.mem_append_left _ h))) hown hK hP 0 rfl rfl 11 (by decide +kernel) (hts (.fieldLink RX11 110 "SixNet" "faceCount" "I") (List.mem_cons_of_mem _ (List.mem_append_left _ (List.mem_of_getElem? (i := 0) rfl)))) (fun _ h9 => h9) rfl dX11_faceAt_6 ?_
    refine lv_icmp_ge (tgt := 27) hx hb dX11_faceAt_9 (by decide +kernel) (fun c_2 => ?_) (fun c_2 => ?_)
    · refine lv_null hx hb dX11_faceAt_27 ?_
      have hP9 := hP.sub (ws' := [(h0, .inr (11, [f0, f1, f2, f3, f4, f5, f6, f7, f8, f9, f10, .int 0, f12, f13, f14, f15, f16, f17, f18, f19]))]) [0] rfl
      have hD9 := hD.sub (ws' := [(h0, .inr (11, [f0, f1, f2, f3, f4, f5, f6, f7, f8, f9, f10, .int 0, f12, f13, f14, f15, f16, f17, f18, f19]))]) [0] (by decide +kernel) rfl
      have hK9 := hK.sub (tys' := []) [] rfl
      exact W.aret (v := .null) hx hb hr (Or.inl ⟨_, rfl⟩) (Or.inl rfl) (fun t ht hW => ⟨⟨none, (), rfl, rfl, by rw [ht]; exact hP9, va_K.moved hW.alike hK9, hD9⟩, hS.F ht⟩) hS.2.2 dX11_faceAt_28
    · exact absurd (Int32.not_lt.mp c_1) c_2
def wq_X11_whyNotHosts_o : List Cond := []
def wq_X11_whyNotHosts : List Cond := .code yX11_whyNotHosts cX11_whyNotHosts 5 (some .int) :: (wq_X11_whyNotHosts_o ++ ((wsV RX11 100 RX11 yX11_nodeAt wq_X11_nodeAt) ++ ([])))
set_option maxRecDepth 20000 in
theorem gt_wq_X11_whyNotHosts : GoodIn lw_tbl wq_X11_whyNotHosts := goodIn_ca (goodIn_p (.code yX11_whyNotHosts cX11_whyNotHosts 5 (some .int) :: wq_X11_whyNotHosts_o) [608] (by decide +kernel) (by decide +kernel)) (goodIn_app (goodIn_app (goodIn_of _ (by decide +kernel)) gt_wq_X11_nodeAt) (fun _ h => absurd h List.not_mem_nil))
set_option maxRecDepth 20000 in
theorem wq_X11_whyNotHosts_g0 : GoodIn wq_X11_whyNotHosts (wsV RX11 100 RX11 yX11_nodeAt wq_X11_nodeAt) := goodIn_sub (fun w h => List.mem_cons_of_mem _ (List.mem_append_right _ (List.mem_append_left _ h))) (by decide +kernel)
set_option maxHeartbeats 4000000 in
set_option maxRecDepth 100000 in
theorem k_X11_whyNotHosts (l : Launch) (dC : Nat → ClassId) (dI : Nat → Nat → Nat) (sz : Nat) (h0 : Nat) (f0 : Value) (f1 : Value) (f2 : Value) (f3 : Value) (f4 : Value) (f5 : Value) (f6 : Value) (f7 : Value) (f8 : Value) (f10 : Value) (f11 : Value) (f12 : Value) (f13 : Value) (f14 : Value) (f15 : Value) (f16 : Value) (f17 : Value) (f18 : Value) (f19 : Value) (k : Int32) (j : Int32) : Met l yX11_whyNotHosts wq_X11_whyNotHosts ({ frames := 6, cells := 0, slots := 0, locals := 400 }) (va_Pc [.ref h0, .int k, .int j] (fun U => U.heap.size = sz ∧ va_P (dC, dI) vwCl [(h0, .inr (11, [f0, f1, f2, f3, f4, f5, f6, f7, f8, .int 0, f10, f11, f12, f13, f14, f15, f16, f17, f18, f19]))] U.heap ∧ va_K (dC, dI) vwCl [] U ∧ va_D (fun _ => True) [(h0, .inr (11, [f0, f1, f2, f3, f4, f5, f6, f7, f8, .int 0, f10, f11, f12, f13, f14, f15, f16, f17, f18, f19]))])) (va_Qi (fun (r : Int32) (_ : Unit) => r = 1) (fun (_ : Unit) (t : State) => va_P (dC, dI) vwCl [(h0, .inr (11, [f0, f1, f2, f3, f4, f5, f6, f7, f8, .int 0, f10, f11, f12, f13, f14, f15, f16, f17, f18, f19]))] t.heap ∧ va_K (dC, dI) vwCl [] t ∧ va_D (va_A [(h0, .inr (11, [f0, f1, f2, f3, f4, f5, f6, f7, f8, .int 0, f10, f11, f12, f13, f14, f15, f16, f17, f18, f19]))] sz) [(h0, .inr (11, [f0, f1, f2, f3, f4, f5, f6, f7, f8, .int 0, f10, f11, f12, f13, f14, f15, f16, f17, f18, f19]))]) (va_A [(h0, .inr (11, [f0, f1, f2, f3, f4, f5, f6, f7, f8, .int 0, f10, f11, f12, f13, f14, f15, f16, f17, f18, f19]))] sz)) 0 0 (va_A [(h0, .inr (11, [f0, f1, f2, f3, f4, f5, f6, f7, f8, .int 0, f10, f11, f12, f13, f14, f15, f16, f17, f18, f19]))] sz) := by
  refine Met.ofW (cc := cX11_whyNotHosts) (maxL := 5) (ret := (some .int)) (by decide +kernel) rfl ?_
  intro p e s m args below meth c s₁ B hml hv
  obtain ⟨rfl, hsz, hP, hK, hD0⟩ := hv
  have hx := B.exec
  have hb := B.bytes
  have hr := B.returns
  have hts := atoms_spec (ws := wq_X11_whyNotHosts) B.pre
  have hown : s.vm.findClass RX11 = some m.cls := findClass_of_methodNamed B.named
  have hlocks := B.notSynchronized
  subst hsz
  have hD := hD0.self (sz := s.heap.size)
  generalize hAe : va_A [(h0, .inr (11, [f0, f1, f2, f3, f4, f5, f6, f7, f8, .int 0, f10, f11, f12, f13, f14, f15, f16, f17, f18, f19]))] s.heap.size = A at hD ⊢
  have hA : ∀ q : Nat, s.heap.size ≤ q → A q := fun q h => by rw [← hAe]; exact Or.inr h
  have hS : va_S A s.heap s.heap [] := va_S.rf
  have hP : va_P (dC, dI) vwCl [(h0, .inr (11, [f0, f1, f2, f3, f4, f5, f6, f7, f8, .int 0, f10, f11, f12, f13, f14, f15, f16, f17, f18, f19]))] s.heap := hP
  have hl := lv_entry ([.ref h0, .int k, .int j]) (n := 5) (Nat.le_of_ble_eq_true rfl)
  rw [lg_entry_eq]
  generalize (lg_sl ([.ref h0, .int k, .int j]) ++ List.replicate (5 - (lg_sl ([.ref h0, .int k, .int j])).length) Slot.unset).toArray = ls at hl ⊢
  have hl : lv_has ls 5 [(0, .ref h0), (1, .int k), (2, .int j)] := hl
  refine lv_aload_n hx hb dX11_whyNotHosts_0 rfl (lv_at hl 0 rfl) ?_
  refine lv_iload_n hx hb dX11_whyNotHosts_1 rfl (lv_at hl 1 rfl) ?_
  have hPc := hP.sub (ws' := [(h0, .inr (11, [f0, f1, f2, f3, f4, f5, f6, f7, f8, .int 0, f10, f11, f12, f13, f14, f15, f16, f17, f18, f19]))]) [0] rfl
  have hDc := hD.sub (ws' := [(h0, .inr (11, [f0, f1, f2, f3, f4, f5, f6, f7, f8, .int 0, f10, f11, f12, f13, f14, f15, f16, f17, f18, f19]))]) [0] (by decide +kernel) rfl
  have hKc := hK.sub (tys' := []) [] rfl
  have hFc := va_free (wc := [(h0, .inr (11, [f0, f1, f2, f3, f4, f5, f6, f7, f8, .int 0, f10, f11, f12, f13, f14, f15, f16, f17, f18, f19]))]) hD hS hA [0] rfl
  have hr_2c : 0 + 0 ≤ 0 := by decide +kernel
  have hr_2s : 0 + 0 ≤ 0 := by decide +kernel
  refine va_callq (va_runV (As := [.int k]) (rest := []) ⟨hx, hb, hml, hown, hts⟩ (k_X11_nodeAt l dC dI s.heap.size h0 f0 f1 f2 f3 f4 f5 f6 f7 f8 f10 f11 f12 f13 f14 f15 f16 f17 f18 f19 k) (cwV 1 hts wq_X11_whyNotHosts_g0 rfl rfl rfl (by decide +kernel) ⟨Nat.le_of_ble_eq_true rfl, Nat.le_of_ble_eq_true rfl⟩) ⟨fun a U g mk q => by obtain ⟨q0, q1, qP, qK, qD⟩ := q; exact ⟨q0, q1, qP, va_K.moved (u := U) (U := U.calling g mk a) (Vm.Alike.refl U.vm) qK, qD⟩, va_recv hKc hPc (ci := 11) (q0 := 0) rfl rfl, fun U hU hW => ⟨rfl, by rw [hU], by rw [hU]; exact hPc, va_K.moved hW.alike hKc, hDc.weaken (fun _ _ _ _ => trivial)⟩⟩ rfl rfl hl.1 rfl (lv_room (Nat.le_of_ble_eq_true rfl)) dX11_whyNotHosts_2 ⟨hr_2c, hr_2s⟩) hS (fun q _ h => hFc q h) hFc (fun r_1 u t H1 locs ht hvm hw hB hz1 hk1 hS => ?_)
  obtain ⟨hP1, hK1, hD1⟩ := hB
  rw [ht] at hP1
  obtain ⟨hP, hD⟩ := va_join (wr := []) (w1 := [(h0, .inr (11, [f0, f1, f2, f3, f4, f5, f6, f7, f8, .int 0, f10, f11, f12, f13, f14, f15, f16, f17, f18, f19]))]) hP hD [0] [] rfl rfl (by decide +kernel) (by decide +kernel) hk1 hFc hP1 hD1
  generalize H1 = H at hP hS ⊢
  have hP : va_P (dC, dI) vwCl [(h0, .inr (11, [f0, f1, f2, f3, f4, f5, f6, f7, f8, .int 0, f10, f11, f12, f13, f14, f15, f16, f17, f18, f19]))] H := hP
  have hD : va_D A [(h0, .inr (11, [f0, f1, f2, f3, f4, f5, f6, f7, f8, .int 0, f10, f11, f12, f13, f14, f15, f16, f17, f18, f19]))] := hD
  have hw : r_1 = none := hw
  subst hw
  refine W.eq (g2 := F0 m 5 ls [.null]) rfl ?_
  refine lv_astore_nN (lv' := [(3, .null), (0, .ref h0), (1, .int k), (2, .int j)]) hx hb dX11_whyNotHosts_5 rfl hl (by decide +kernel) rfl (fun ls hl => ?_)
  refine lv_aload_n hx hb dX11_whyNotHosts_6 rfl (lv_at hl 1 rfl) ?_
  refine lv_iload_n hx hb dX11_whyNotHosts_7 rfl (lv_at hl 3 rfl) ?_
  have hPc := hP.sub (ws' := [(h0, .inr (11, [f0, f1, f2, f3, f4, f5, f6, f7, f8, .int 0, f10, f11, f12, f13, f14, f15, f16, f17, f18, f19]))]) [0] rfl
  have hDc := hD.sub (ws' := [(h0, .inr (11, [f0, f1, f2, f3, f4, f5, f6, f7, f8, .int 0, f10, f11, f12, f13, f14, f15, f16, f17, f18, f19]))]) [0] (by decide +kernel) rfl
  have hKc := hK.sub (tys' := []) [] rfl
  have hFc := va_free (wc := [(h0, .inr (11, [f0, f1, f2, f3, f4, f5, f6, f7, f8, .int 0, f10, f11, f12, f13, f14, f15, f16, f17, f18, f19]))]) hD hS hA [0] rfl
  have hr_4c : 0 + 0 ≤ 0 := by decide +kernel
  have hr_4s : 0 + 0 ≤ 0 := by decide +kernel
  refine va_callq (va_runV (As := [.int j]) (rest := []) ⟨hx, hb, hml, hown, hts⟩ (k_X11_nodeAt l dC dI H.size h0 f0 f1 f2 f3 f4 f5 f6 f7 f8 f10 f11 f12 f13 f14 f15 f16 f17 f18 f19 j) (cwV 1 hts wq_X11_whyNotHosts_g0 rfl rfl rfl (by decide +kernel) ⟨Nat.le_of_ble_eq_true rfl, Nat.le_of_ble_eq_true rfl⟩) ⟨fun a U g mk q => by obtain ⟨q0, q1, qP, qK, qD⟩ := q; exact ⟨q0, q1, qP, va_K.moved (u := U) (U := U.calling g mk a) (Vm.Alike.refl U.vm) qK, qD⟩, va_recv hKc hPc (ci := 11) (q0 := 0) rfl rfl, fun U hU hW => ⟨rfl, by rw [hU], by rw [hU]; exact hPc, va_K.moved hW.alike hKc, hDc.weaken (fun _ _ _ _ => trivial)⟩⟩ rfl rfl hl.1 rfl (lv_room (Nat.le_of_ble_eq_true rfl)) dX11_whyNotHosts_8 ⟨hr_4c, hr_4s⟩) hS (fun q _ h => hFc q h) hFc (fun r_3 u t H1 locs ht hvm hw hB hz1 hk1 hS => ?_)
  obtain ⟨hP1, hK1, hD1⟩ := hB
  rw [ht] at hP1
  obtain ⟨hP, hD⟩ := va_join (wr := []) (w1 := [(h0, .inr (11, [f0, f1, f2, f3, f4, f5, f6, f7, f8, .int 0, f10, f11, f12, f13, f14, f15, f16, f17, f18, f19]))]) hP hD [0] [] rfl rfl (by decide +kernel) (by decide +kernel) hk1 hFc hP1 hD1
  generalize H1 = H at hP hS ⊢
  have hP : va_P (dC, dI) vwCl [(h0, .inr (11, [f0, f1, f2, f3, f4, f5, f6, f7, f8, .int 0, f10, f11, f12, f13, f14, f15, f16, f17, f18, f19]))] H := hP
  have hD : va_D A [(h0, .inr (11, [f0, f1, f2, f3, f4, f5, f6, f7, f8, .int 0, f10, f11, f12, f13, f14, f15, f16, f17, f18, f19]))] := hD
  have hw : r_3 = none := hw
  subst hw
  refine W.eq (g2 := F0 m 11 ls [.null]) rfl ?_
  refine lv_astoreN (lv' := [(4, .null), (3, .null), (0, .ref h0), (1, .int k), (2, .int j)]) hx hb dX11_whyNotHosts_11 hl (by decide +kernel) rfl (fun ls hl => ?_)
  refine lv_aload_nN hx hb dX11_whyNotHosts_13 rfl (lv_at hl 1 rfl) ?_
  refine lv_ifnullN (tgt := 22) hx hb dX11_whyNotHosts_14 (by decide +kernel) ?_
  refine lv_iconst (v := 1) hx hb dX11_whyNotHosts_22 (by decide +kernel) ?_
  have hP9 := hP.sub (ws' := [(h0, .inr (11, [f0, f1, f2, f3, f4, f5, f6, f7, f8, .int 0, f10, f11, f12, f13, f14, f15, f16, f17, f18, f19]))]) [0] rfl
  have hD9 := hD.sub (ws' := [(h0, .inr (11, [f0, f1, f2, f3, f4, f5, f6, f7, f8, .int 0, f10, f11, f12, f13, f14, f15, f16, f17, f18, f19]))]) [0] (by decide +kernel) rfl
  have hK9 := hK.sub (tys' := []) [] rfl
  exact W.iret (v := 1) hx hb hr (fun t ht hW => ⟨⟨1, (), rfl, rfl, by rw [ht]; exact hP9, va_K.moved hW.alike hK9, hD9⟩, hS.F ht⟩) hS.2.2 dX11_whyNotHosts_23
def wq_X9_at_o : List Cond := [.fieldLink RX9 17 "SixNet$Row" "count" "I"]
def wq_X9_at : List Cond := .code yX9_at cX9_at 2 (some (.object "SixNet$Packet")) :: (wq_X9_at_o ++ (wsX90 ++ ([])))
set_option maxRecDepth 20000 in
theorem gt_wq_X9_at : GoodIn lw_tbl wq_X9_at := goodIn_ca (goodIn_p (.code yX9_at cX9_at 2 (some (.object "SixNet$Packet")) :: wq_X9_at_o) [1001] (by decide +kernel) (by decide +kernel)) (goodIn_app gt_wsX90 (fun _ h => absurd h List.not_mem_nil))
set_option maxHeartbeats 4000000 in
set_option maxRecDepth 100000 in
theorem k_X9_at (l : Launch) (dC : Nat → ClassId) (dI : Nat → Nat → Nat) (sz : Nat) (h0 : Nat) (g0 : Value) (k : Int32) : Met l yX9_at wq_X9_at ({ frames := 4, cells := 0, slots := 0, locals := 200 }) (va_Pc [.ref h0, .int k] (fun U => U.heap.size = sz ∧ va_P (dC, dI) vwCl [(h0, .inr (9, [g0, .int 0]))] U.heap ∧ va_K (dC, dI) vwCl [] U ∧ va_D (fun _ => True) [(h0, .inr (9, [g0, .int 0]))])) (va_Qq (fun (r : Option Nat) (_ : Unit) => r = none) (fun (_ : Unit) (t : State) => va_P (dC, dI) vwCl [(h0, .inr (9, [g0, .int 0]))] t.heap ∧ va_K (dC, dI) vwCl [] t ∧ va_D (va_A [(h0, .inr (9, [g0, .int 0]))] sz) [(h0, .inr (9, [g0, .int 0]))]) (va_A [(h0, .inr (9, [g0, .int 0]))] sz)) 0 0 (va_A [(h0, .inr (9, [g0, .int 0]))] sz) := by
  refine Met.ofW (cc := cX9_at) (maxL := 2) (ret := (some (.object "SixNet$Packet"))) (by decide +kernel) rfl ?_
  intro p e s m args below meth c s₁ B hml hv
  obtain ⟨rfl, hsz, hP, hK, hD0⟩ := hv
  have hx := B.exec
  have hb := B.bytes
  have hr := B.returns
  have hts := atoms_spec (ws := wq_X9_at) B.pre
  have hown : s.vm.findClass RX9 = some m.cls := findClass_of_methodNamed B.named
  have hlocks := B.notSynchronized
  subst hsz
  have hD := hD0.self (sz := s.heap.size)
  generalize hAe : va_A [(h0, .inr (9, [g0, .int 0]))] s.heap.size = A at hD ⊢
  have hA : ∀ q : Nat, s.heap.size ≤ q → A q := fun q h => by rw [← hAe]; exact Or.inr h
  have hS : va_S A s.heap s.heap [] := va_S.rf
  have hP : va_P (dC, dI) vwCl [(h0, .inr (9, [g0, .int 0]))] s.heap := hP
  have hl := lv_entry ([.ref h0, .int k]) (n := 2) (Nat.le_of_ble_eq_true rfl)
  rw [lg_entry_eq]
  generalize (lg_sl ([.ref h0, .int k]) ++ List.replicate (2 - (lg_sl ([.ref h0, .int k])).length) Slot.unset).toArray = ls at hl ⊢
  have hl : lv_has ls 2 [(0, .ref h0), (1, .int k)] := hl
  refine lv_iload_n hx hb dX9_at_0 rfl (lv_at hl 1 rfl) ?_
  refine lv_if_lt (tgt := 30) hx hb dX9_at_1 (by decide +kernel) (fun c_1 => ?_) (fun c_1 => ?_)
  · refine lv_null hx hb dX9_at_30 ?_
    have hP9 := hP.sub (ws' := [(h0, .inr (9, [g0, .int 0]))]) [0] rfl
    have hD9 := hD.sub (ws' := [(h0, .inr (9, [g0, .int 0]))]) [0] (by decide +kernel) rfl
    have hK9 := hK.sub (tys' := []) [] rfl
    exact W.aret (v := .null) hx hb hr (Or.inl ⟨_, rfl⟩) (Or.inl rfl) (fun t ht hW => ⟨⟨none, (), rfl, rfl, by rw [ht]; exact hP9, va_K.moved hW.alike hK9, hD9⟩, hS.F ht⟩) hS.2.2 dX9_at_31
  · refine lv_iload_n hx hb dX9_at_4 rfl (lv_at hl 1 rfl) ?_
    refine lv_aload_n hx hb dX9_at_5 rfl (lv_at hl 0 rfl) ?_
    refine va_get (D := (dC, dI)) (ci := 9) (v := .int 0) (C := RX9) (T := TX9) (N := 2) hx hb hts (fun w h => List.mem_cons_of_mem _ (List.mem_append_right _ (List.mem_append_left _ h))) hown hK hP 0 rfl rfl 1 (by decide +kernel) (hts (.fieldLink RX9 17 "SixNet$Row" "count" "I") (List.mem_cons_of_mem _ (List.mem_append_left _ (List.mem_of_getElem? (i := 0) rfl)))) (fun _ h9 => h9) rfl dX9_at_6 ?_
    refine lv_icmp_ge (tgt := 30) hx hb dX9_at_9 (by decide +kernel) (fun c_2 => ?_) (fun c_2 => ?_)
    · refine lv_null hx hb dX9_at_30 ?_
      have hP9 := hP.sub (ws' := [(h0, .inr (9, [g0, .int 0]))]) [0] rfl
      have hD9 := hD.sub (ws' := [(h0, .inr (9, [g0, .int 0]))]) [0] (by decide +kernel) rfl
      have hK9 := hK.sub (tys' := []) [] rfl
      exact W.aret (v := .null) hx hb hr (Or.inl ⟨_, rfl⟩) (Or.inl rfl) (fun t ht hW => ⟨⟨none, (), rfl, rfl, by rw [ht]; exact hP9, va_K.moved hW.alike hK9, hD9⟩, hS.F ht⟩) hS.2.2 dX9_at_31
    · exact absurd (Int32.not_lt.mp c_1) c_2
def wq_X11_attach_o : List Cond := []
def wq_X11_attach : List Cond := .code yX11_attach cX11_attach 10 (some .int) :: (wq_X11_attach_o ++ ((wsV RX11 100 RX11 yX11_nodeAt wq_X11_nodeAt) ++ ((wsV RX11 104 RX11 yX11_linkAt wq_X11_linkAt) ++ ((wsV RX11 76 RX11 yX11_refuse wq_X11_refuse) ++ ([])))))
set_option maxRecDepth 20000 in
theorem gt_wq_X11_attach : GoodIn lw_tbl wq_X11_attach := goodIn_ca (goodIn_p (.code yX11_attach cX11_attach 10 (some .int) :: wq_X11_attach_o) [432] (by decide +kernel) (by decide +kernel)) (goodIn_app (goodIn_app (goodIn_of _ (by decide +kernel)) gt_wq_X11_nodeAt) (goodIn_app (goodIn_app (goodIn_of _ (by decide +kernel)) gt_wq_X11_linkAt) (goodIn_app (goodIn_app (goodIn_of _ (by decide +kernel)) gt_wq_X11_refuse) (fun _ h => absurd h List.not_mem_nil))))
set_option maxRecDepth 20000 in
theorem wq_X11_attach_g0 : GoodIn wq_X11_attach (wsV RX11 100 RX11 yX11_nodeAt wq_X11_nodeAt) := goodIn_sub (fun w h => List.mem_cons_of_mem _ (List.mem_append_right _ (List.mem_append_left _ h))) (by decide +kernel)
set_option maxRecDepth 20000 in
theorem wq_X11_attach_g1 : GoodIn wq_X11_attach (wsV RX11 104 RX11 yX11_linkAt wq_X11_linkAt) := goodIn_sub (fun w h => List.mem_cons_of_mem _ (List.mem_append_right _ (List.mem_append_right _ (List.mem_append_left _ h)))) (by decide +kernel)
set_option maxRecDepth 20000 in
theorem wq_X11_attach_g2 : GoodIn wq_X11_attach (wsV RX11 76 RX11 yX11_refuse wq_X11_refuse) := goodIn_sub (fun w h => List.mem_cons_of_mem _ (List.mem_append_right _ (List.mem_append_right _ (List.mem_append_right _ (List.mem_append_left _ h))))) (by decide +kernel)
set_option maxHeartbeats 4000000 in
set_option maxRecDepth 100000 in
theorem k_X11_attach (l : Launch) (dC : Nat → ClassId) (dI : Nat → Nat → Nat) (sz : Nat) (h0 : Nat) (f0 : Value) (f1 : Value) (f2 : Value) (f3 : Value) (f4 : Value) (f5 : Value) (f6 : Value) (f7 : Value) (f8 : Value) (f13 : Value) (f14 : Value) (f15 : Value) (k : Int32) (j : Int32) (xm : Int64) (xd : Int64) : Met l yX11_attach wq_X11_attach ({ frames := 10, cells := 0, slots := 0, locals := 1200 }) (va_Pc [.ref h0, .int k, .int j, .long xm, .long xd] (fun U => U.heap.size = sz ∧ va_P (dC, dI) vwCl [(h0, .inr (11, [f0, f1, f2, f3, f4, f5, f6, f7, f8, .int 0, .int 0, .int 0, .int 0, f13, f14, f15, .int 0, .int 0, .int 0, .int 0]))] U.heap ∧ va_K (dC, dI) vwCl [] U ∧ va_D (fun _ => True) [(h0, .inr (11, [f0, f1, f2, f3, f4, f5, f6, f7, f8, .int 0, .int 0, .int 0, .int 0, f13, f14, f15, .int 0, .int 0, .int 0, .int 0]))])) (va_Qi (fun (r : Int32) (_ : Unit) => r = -1) (fun (_ : Unit) (_ : State) => True) (va_A [(h0, .inr (11, [f0, f1, f2, f3, f4, f5, f6, f7, f8, .int 0, .int 0, .int 0, .int 0, f13, f14, f15, .int 0, .int 0, .int 0, .int 0]))] sz)) 0 0 (va_A [(h0, .inr (11, [f0, f1, f2, f3, f4, f5, f6, f7, f8, .int 0, .int 0, .int 0, .int 0, f13, f14, f15, .int 0, .int 0, .int 0, .int 0]))] sz) := by
  refine Met.ofW (cc := cX11_attach) (maxL := 10) (ret := (some .int)) (by decide +kernel) rfl ?_
  intro p e s m args below meth c s₁ B hml hv
  obtain ⟨rfl, hsz, hP, hK, hD0⟩ := hv
  have hx := B.exec
  have hb := B.bytes
  have hr := B.returns
  have hts := atoms_spec (ws := wq_X11_attach) B.pre
  have hown : s.vm.findClass RX11 = some m.cls := findClass_of_methodNamed B.named
  have hlocks := B.notSynchronized
  subst hsz
  have hD := hD0.self (sz := s.heap.size)
  generalize hAe : va_A [(h0, .inr (11, [f0, f1, f2, f3, f4, f5, f6, f7, f8, .int 0, .int 0, .int 0, .int 0, f13, f14, f15, .int 0, .int 0, .int 0, .int 0]))] s.heap.size = A at hD ⊢
  have hA : ∀ q : Nat, s.heap.size ≤ q → A q := fun q h => by rw [← hAe]; exact Or.inr h
  have hS : va_S A s.heap s.heap [] := va_S.rf
  have hP : va_P (dC, dI) vwCl [(h0, .inr (11, [f0, f1, f2, f3, f4, f5, f6, f7, f8, .int 0, .int 0, .int 0, .int 0, f13, f14, f15, .int 0, .int 0, .int 0, .int 0]))] s.heap := hP
  have hl := lv_entry ([.ref h0, .int k, .int j, .long xm, .long xd]) (n := 10) (Nat.le_of_ble_eq_true rfl)
  rw [lg_entry_eq]
  generalize (lg_sl ([.ref h0, .int k, .int j, .long xm, .long xd]) ++ List.replicate (10 - (lg_sl ([.ref h0, .int k, .int j, .long xm, .long xd])).length) Slot.unset).toArray = ls at hl ⊢
  have hl : lv_has ls 10 [(0, .ref h0), (1, .int k), (2, .int j), (3, .long xm), (5, .long xd)] := hl
  refine lv_aload_n hx hb dX11_attach_0 rfl (lv_at hl 0 rfl) ?_
  refine lv_iload_n hx hb dX11_attach_1 rfl (lv_at hl 1 rfl) ?_
  have hPc := hP.sub (ws' := [(h0, .inr (11, [f0, f1, f2, f3, f4, f5, f6, f7, f8, .int 0, .int 0, .int 0, .int 0, f13, f14, f15, .int 0, .int 0, .int 0, .int 0]))]) [0] rfl
  have hDc := hD.sub (ws' := [(h0, .inr (11, [f0, f1, f2, f3, f4, f5, f6, f7, f8, .int 0, .int 0, .int 0, .int 0, f13, f14, f15, .int 0, .int 0, .int 0, .int 0]))]) [0] (by decide +kernel) rfl
  have hKc := hK.sub (tys' := []) [] rfl
  have hFc := va_free (wc := [(h0, .inr (11, [f0, f1, f2, f3, f4, f5, f6, f7, f8, .int 0, .int 0, .int 0, .int 0, f13, f14, f15, .int 0, .int 0, .int 0, .int 0]))]) hD hS hA [0] rfl
  have hr_2c : 0 + 0 ≤ 0 := by decide +kernel
  have hr_2s : 0 + 0 ≤ 0 := by decide +kernel
  refine va_callq (va_runV (As := [.int k]) (rest := []) ⟨hx, hb, hml, hown, hts⟩ (k_X11_nodeAt l dC dI s.heap.size h0 f0 f1 f2 f3 f4 f5 f6 f7 f8 (.int 0) (.int 0) (.int 0) f13 f14 f15 (.int 0) (.int 0) (.int 0) (.int 0) k) (cwV 1 hts wq_X11_attach_g0 rfl rfl rfl (by decide +kernel) ⟨Nat.le_of_ble_eq_true rfl, Nat.le_of_ble_eq_true rfl⟩) ⟨fun a U g mk q => by obtain ⟨q0, q1, qP, qK, qD⟩ := q; exact ⟨q0, q1, qP, va_K.moved (u := U) (U := U.calling g mk a) (Vm.Alike.refl U.vm) qK, qD⟩, va_recv hKc hPc (ci := 11) (q0 := 0) rfl rfl, fun U hU hW => ⟨rfl, by rw [hU], by rw [hU]; exact hPc, va_K.moved hW.alike hKc, hDc.weaken (fun _ _ _ _ => trivial)⟩⟩ rfl rfl hl.1 rfl (lv_room (Nat.le_of_ble_eq_true rfl)) dX11_attach_2 ⟨hr_2c, hr_2s⟩) hS (fun q _ h => hFc q h) hFc (fun r_1 u t H1 locs ht hvm hw hB hz1 hk1 hS => ?_)
  obtain ⟨hP1, hK1, hD1⟩ := hB
  rw [ht] at hP1
  obtain ⟨hP, hD⟩ := va_join (wr := []) (w1 := [(h0, .inr (11, [f0, f1, f2, f3, f4, f5, f6, f7, f8, .int 0, .int 0, .int 0, .int 0, f13, f14, f15, .int 0, .int 0, .int 0, .int 0]))]) hP hD [0] [] rfl rfl (by decide +kernel) (by decide +kernel) hk1 hFc hP1 hD1
  generalize H1 = H at hP hS ⊢
  have hP : va_P (dC, dI) vwCl [(h0, .inr (11, [f0, f1, f2, f3, f4, f5, f6, f7, f8, .int 0, .int 0, .int 0, .int 0, f13, f14, f15, .int 0, .int 0, .int 0, .int 0]))] H := hP
  have hD : va_D A [(h0, .inr (11, [f0, f1, f2, f3, f4, f5, f6, f7, f8, .int 0, .int 0, .int 0, .int 0, f13, f14, f15, .int 0, .int 0, .int 0, .int 0]))] := hD
  have hw : r_1 = none := hw
  subst hw
  refine W.eq (g2 := F0 m 5 ls [.null]) rfl ?_
  refine lv_astoreN (lv' := [(7, .null), (0, .ref h0), (1, .int k), (2, .int j), (3, .long xm), (5, .long xd)]) hx hb dX11_attach_5 hl (by decide +kernel) rfl (fun ls hl => ?_)
  refine lv_aload_n hx hb dX11_attach_7 rfl (lv_at hl 1 rfl) ?_
  refine lv_iload_n hx hb dX11_attach_8 rfl (lv_at hl 3 rfl) ?_
  have hPc := hP.sub (ws' := [(h0, .inr (11, [f0, f1, f2, f3, f4, f5, f6, f7, f8, .int 0, .int 0, .int 0, .int 0, f13, f14, f15, .int 0, .int 0, .int 0, .int 0]))]) [0] rfl
  have hDc := hD.sub (ws' := [(h0, .inr (11, [f0, f1, f2, f3, f4, f5, f6, f7, f8, .int 0, .int 0, .int 0, .int 0, f13, f14, f15, .int 0, .int 0, .int 0, .int 0]))]) [0] (by decide +kernel) rfl
  have hKc := hK.sub (tys' := []) [] rfl
  have hFc := va_free (wc := [(h0, .inr (11, [f0, f1, f2, f3, f4, f5, f6, f7, f8, .int 0, .int 0, .int 0, .int 0, f13, f14, f15, .int 0, .int 0, .int 0, .int 0]))]) hD hS hA [0] rfl
  have hr_4c : 0 + 0 ≤ 0 := by decide +kernel
  have hr_4s : 0 + 0 ≤ 0 := by decide +kernel
  refine va_callq (va_runV (As := [.int j]) (rest := []) ⟨hx, hb, hml, hown, hts⟩ (k_X11_linkAt l dC dI H.size h0 f0 f1 f2 f3 f4 f5 f6 f7 f8 (.int 0) (.int 0) (.int 0) f13 f14 f15 (.int 0) (.int 0) (.int 0) (.int 0) j) (cwV 1 hts wq_X11_attach_g1 rfl rfl rfl (by decide +kernel) ⟨Nat.le_of_ble_eq_true rfl, Nat.le_of_ble_eq_true rfl⟩) ⟨fun a U g mk q => by obtain ⟨q0, q1, qP, qK, qD⟩ := q; exact ⟨q0, q1, qP, va_K.moved (u := U) (U := U.calling g mk a) (Vm.Alike.refl U.vm) qK, qD⟩, va_recv hKc hPc (ci := 11) (q0 := 0) rfl rfl, fun U hU hW => ⟨rfl, by rw [hU], by rw [hU]; exact hPc, va_K.moved hW.alike hKc, hDc.weaken (fun _ _ _ _ => trivial)⟩⟩ rfl rfl hl.1 rfl (lv_room (Nat.le_of_ble_eq_true rfl)) dX11_attach_9 ⟨hr_4c, hr_4s⟩) hS (fun q _ h => hFc q h) hFc (fun r_3 u t H1 locs ht hvm hw hB hz1 hk1 hS => ?_)
  obtain ⟨hP1, hK1, hD1⟩ := hB
  rw [ht] at hP1
  obtain ⟨hP, hD⟩ := va_join (wr := []) (w1 := [(h0, .inr (11, [f0, f1, f2, f3, f4, f5, f6, f7, f8, .int 0, .int 0, .int 0, .int 0, f13, f14, f15, .int 0, .int 0, .int 0, .int 0]))]) hP hD [0] [] rfl rfl (by decide +kernel) (by decide +kernel) hk1 hFc hP1 hD1
  generalize H1 = H at hP hS ⊢
  have hP : va_P (dC, dI) vwCl [(h0, .inr (11, [f0, f1, f2, f3, f4, f5, f6, f7, f8, .int 0, .int 0, .int 0, .int 0, f13, f14, f15, .int 0, .int 0, .int 0, .int 0]))] H := hP
  have hD : va_D A [(h0, .inr (11, [f0, f1, f2, f3, f4, f5, f6, f7, f8, .int 0, .int 0, .int 0, .int 0, f13, f14, f15, .int 0, .int 0, .int 0, .int 0]))] := hD
  have hw : r_3 = none := hw
  subst hw
  refine W.eq (g2 := F0 m 12 ls [.null]) rfl ?_
  refine lv_astoreN (lv' := [(8, .null), (7, .null), (0, .ref h0), (1, .int k), (2, .int j), (3, .long xm), (5, .long xd)]) hx hb dX11_attach_12 hl (by decide +kernel) rfl (fun ls hl => ?_)
  refine lv_aloadN hx hb dX11_attach_14 (lv_at hl 1 rfl) ?_
  refine lv_ifnullN (tgt := 24) hx hb dX11_attach_16 (by decide +kernel) ?_
  refine lv_aload_n hx hb dX11_attach_24 rfl (lv_at hl 2 rfl) ?_
  refine lv_iconst (v := 1) hx hb dX11_attach_25 (by decide +kernel) ?_
  have hPc := hP.sub (ws' := [(h0, .inr (11, [f0, f1, f2, f3, f4, f5, f6, f7, f8, .int 0, .int 0, .int 0, .int 0, f13, f14, f15, .int 0, .int 0, .int 0, .int 0]))]) [0] rfl
  have hDc := hD.sub (ws' := [(h0, .inr (11, [f0, f1, f2, f3, f4, f5, f6, f7, f8, .int 0, .int 0, .int 0, .int 0, f13, f14, f15, .int 0, .int 0, .int 0, .int 0]))]) [0] (by decide +kernel) rfl
  have hKc := hK.sub (tys' := []) [] rfl
  have hFc := va_free (wc := [(h0, .inr (11, [f0, f1, f2, f3, f4, f5, f6, f7, f8, .int 0, .int 0, .int 0, .int 0, f13, f14, f15, .int 0, .int 0, .int 0, .int 0]))]) hD hS hA [0] rfl
  have hr_6c : 0 + 0 ≤ 0 := by decide +kernel
  have hr_6s : 0 + 0 ≤ 0 := by decide +kernel
  refine va_calli (va_runV (As := [.int 1]) (rest := []) ⟨hx, hb, hml, hown, hts⟩ (k_X11_refuse l dC dI H.size h0 f0 f1 f2 f3 f4 f5 f6 f7 f8 (.int 0) (.int 0) (.int 0) (.int 0) f13 f14 f15 (.int 0) (.int 0) (.int 0) (.int 0) 1) (cwV 1 hts wq_X11_attach_g2 rfl rfl rfl (by decide +kernel) ⟨Nat.le_of_ble_eq_true rfl, Nat.le_of_ble_eq_true rfl⟩) ⟨fun a U g mk q => by obtain ⟨q0, q1, qP, qK, qD⟩ := q; exact ⟨q0, q1, qP, va_K.moved (u := U) (U := U.calling g mk a) (Vm.Alike.refl U.vm) qK, qD⟩, va_recv hKc hPc (ci := 11) (q0 := 0) rfl rfl, fun U hU hW => ⟨rfl, by rw [hU], by rw [hU]; exact hPc, va_K.moved hW.alike hKc, hDc.weaken (fun _ _ _ _ => trivial)⟩⟩ rfl rfl hl.1 rfl (lv_room (Nat.le_of_ble_eq_true rfl)) dX11_attach_26 ⟨hr_6c, hr_6s⟩) hS (fun q _ h => hFc q h) hFc (fun r_5 u t H1 locs ht hvm hw hB hz1 hk1 hS => ?_)
  obtain ⟨hP1, hK1, hD1⟩ := hB
  rw [ht] at hP1
  obtain ⟨hP, hD⟩ := va_join (wr := []) (w1 := [(h0, .inr (11, [f0, f1, f2, f3, f4, f5, f6, f7, f8, .int 0, .int 0, .int 0, .int 0, f13, f14, f15, .int 0, .int 0, .int 0, .int 1]))]) hP hD [0] [] rfl rfl (by decide +kernel) (by decide +kernel) hk1 hFc hP1 hD1
  generalize H1 = H at hP hS ⊢
  have hP : va_P (dC, dI) vwCl [(h0, .inr (11, [f0, f1, f2, f3, f4, f5, f6, f7, f8, .int 0, .int 0, .int 0, .int 0, f13, f14, f15, .int 0, .int 0, .int 0, .int 1]))] H := hP
  have hD : va_D A [(h0, .inr (11, [f0, f1, f2, f3, f4, f5, f6, f7, f8, .int 0, .int 0, .int 0, .int 0, f13, f14, f15, .int 0, .int 0, .int 0, .int 1]))] := hD
  have hw : r_5 = -1 := hw
  subst hw
  exact W.iret (v := (-1)) hx hb hr (fun t ht hW => ⟨⟨(-1), (), rfl, rfl, trivial⟩, hS.F ht⟩) hS.2.2 dX11_attach_29
def wq_X11_own_o : List Cond := []
def wq_X11_own : List Cond := .code yX11_own cX11_own 8 (some .int) :: (wq_X11_own_o ++ ((wsV RX11 100 RX11 yX11_nodeAt wq_X11_nodeAt) ++ ((wsV RX11 76 RX11 yX11_refuse wq_X11_refuse) ++ ([]))))
set_option maxRecDepth 20000 in
theorem gt_wq_X11_own : GoodIn lw_tbl wq_X11_own := goodIn_ca (goodIn_p (.code yX11_own cX11_own 8 (some .int) :: wq_X11_own_o) [595] (by decide +kernel) (by decide +kernel)) (goodIn_app (goodIn_app (goodIn_of _ (by decide +kernel)) gt_wq_X11_nodeAt) (goodIn_app (goodIn_app (goodIn_of _ (by decide +kernel)) gt_wq_X11_refuse) (fun _ h => absurd h List.not_mem_nil)))
set_option maxRecDepth 20000 in
theorem wq_X11_own_g0 : GoodIn wq_X11_own (wsV RX11 100 RX11 yX11_nodeAt wq_X11_nodeAt) := goodIn_sub (fun w h => List.mem_cons_of_mem _ (List.mem_append_right _ (List.mem_append_left _ h))) (by decide +kernel)
set_option maxRecDepth 20000 in
theorem wq_X11_own_g1 : GoodIn wq_X11_own (wsV RX11 76 RX11 yX11_refuse wq_X11_refuse) := goodIn_sub (fun w h => List.mem_cons_of_mem _ (List.mem_append_right _ (List.mem_append_right _ (List.mem_append_left _ h)))) (by decide +kernel)
set_option maxHeartbeats 4000000 in
set_option maxRecDepth 100000 in
theorem k_X11_own (l : Launch) (dC : Nat → ClassId) (dI : Nat → Nat → Nat) (sz : Nat) (h0 : Nat) (f0 : Value) (f1 : Value) (f2 : Value) (f3 : Value) (f4 : Value) (f5 : Value) (f6 : Value) (f7 : Value) (f8 : Value) (f13 : Value) (f14 : Value) (f15 : Value) (k : Int32) (xm : Int64) (j : Int32) : Met l yX11_own wq_X11_own ({ frames := 10, cells := 0, slots := 0, locals := 1200 }) (va_Pc [.ref h0, .int k, .long xm, .int j] (fun U => U.heap.size = sz ∧ va_P (dC, dI) vwCl [(h0, .inr (11, [f0, f1, f2, f3, f4, f5, f6, f7, f8, .int 0, .int 0, .int 0, .int 0, f13, f14, f15, .int 0, .int 0, .int 0, .int 0]))] U.heap ∧ va_K (dC, dI) vwCl [] U ∧ va_D (fun _ => True) [(h0, .inr (11, [f0, f1, f2, f3, f4, f5, f6, f7, f8, .int 0, .int 0, .int 0, .int 0, f13, f14, f15, .int 0, .int 0, .int 0, .int 0]))])) (va_Qi (fun (r : Int32) (_ : Unit) => r = -1) (fun (_ : Unit) (_ : State) => True) (va_A [(h0, .inr (11, [f0, f1, f2, f3, f4, f5, f6, f7, f8, .int 0, .int 0, .int 0, .int 0, f13, f14, f15, .int 0, .int 0, .int 0, .int 0]))] sz)) 0 0 (va_A [(h0, .inr (11, [f0, f1, f2, f3, f4, f5, f6, f7, f8, .int 0, .int 0, .int 0, .int 0, f13, f14, f15, .int 0, .int 0, .int 0, .int 0]))] sz) := by
  refine Met.ofW (cc := cX11_own) (maxL := 8) (ret := (some .int)) (by decide +kernel) rfl ?_
  intro p e s m args below meth c s₁ B hml hv
  obtain ⟨rfl, hsz, hP, hK, hD0⟩ := hv
  have hx := B.exec
  have hb := B.bytes
  have hr := B.returns
  have hts := atoms_spec (ws := wq_X11_own) B.pre
  have hown : s.vm.findClass RX11 = some m.cls := findClass_of_methodNamed B.named
  have hlocks := B.notSynchronized
  subst hsz
  have hD := hD0.self (sz := s.heap.size)
  generalize hAe : va_A [(h0, .inr (11, [f0, f1, f2, f3, f4, f5, f6, f7, f8, .int 0, .int 0, .int 0, .int 0, f13, f14, f15, .int 0, .int 0, .int 0, .int 0]))] s.heap.size = A at hD ⊢
  have hA : ∀ q : Nat, s.heap.size ≤ q → A q := fun q h => by rw [← hAe]; exact Or.inr h
  have hS : va_S A s.heap s.heap [] := va_S.rf
  have hP : va_P (dC, dI) vwCl [(h0, .inr (11, [f0, f1, f2, f3, f4, f5, f6, f7, f8, .int 0, .int 0, .int 0, .int 0, f13, f14, f15, .int 0, .int 0, .int 0, .int 0]))] s.heap := hP
  have hl := lv_entry ([.ref h0, .int k, .long xm, .int j]) (n := 8) (Nat.le_of_ble_eq_true rfl)
  rw [lg_entry_eq]
  generalize (lg_sl ([.ref h0, .int k, .long xm, .int j]) ++ List.replicate (8 - (lg_sl ([.ref h0, .int k, .long xm, .int j])).length) Slot.unset).toArray = ls at hl ⊢
  have hl : lv_has ls 8 [(0, .ref h0), (1, .int k), (2, .long xm), (4, .int j)] := hl
  refine lv_aload_n hx hb dX11_own_0 rfl (lv_at hl 0 rfl) ?_
  refine lv_iload_n hx hb dX11_own_1 rfl (lv_at hl 1 rfl) ?_
  have hPc := hP.sub (ws' := [(h0, .inr (11, [f0, f1, f2, f3, f4, f5, f6, f7, f8, .int 0, .int 0, .int 0, .int 0, f13, f14, f15, .int 0, .int 0, .int 0, .int 0]))]) [0] rfl
  have hDc := hD.sub (ws' := [(h0, .inr (11, [f0, f1, f2, f3, f4, f5, f6, f7, f8, .int 0, .int 0, .int 0, .int 0, f13, f14, f15, .int 0, .int 0, .int 0, .int 0]))]) [0] (by decide +kernel) rfl
  have hKc := hK.sub (tys' := []) [] rfl
  have hFc := va_free (wc := [(h0, .inr (11, [f0, f1, f2, f3, f4, f5, f6, f7, f8, .int 0, .int 0, .int 0, .int 0, f13, f14, f15, .int 0, .int 0, .int 0, .int 0]))]) hD hS hA [0] rfl
  have hr_2c : 0 + 0 ≤ 0 := by decide +kernel
  have hr_2s : 0 + 0 ≤ 0 := by decide +kernel
  refine va_callq (va_runV (As := [.int k]) (rest := []) ⟨hx, hb, hml, hown, hts⟩ (k_X11_nodeAt l dC dI s.heap.size h0 f0 f1 f2 f3 f4 f5 f6 f7 f8 (.int 0) (.int 0) (.int 0) f13 f14 f15 (.int 0) (.int 0) (.int 0) (.int 0) k) (cwV 1 hts wq_X11_own_g0 rfl rfl rfl (by decide +kernel) ⟨Nat.le_of_ble_eq_true rfl, Nat.le_of_ble_eq_true rfl⟩) ⟨fun a U g mk q => by obtain ⟨q0, q1, qP, qK, qD⟩ := q; exact ⟨q0, q1, qP, va_K.moved (u := U) (U := U.calling g mk a) (Vm.Alike.refl U.vm) qK, qD⟩, va_recv hKc hPc (ci := 11) (q0 := 0) rfl rfl, fun U hU hW => ⟨rfl, by rw [hU], by rw [hU]; exact hPc, va_K.moved hW.alike hKc, hDc.weaken (fun _ _ _ _ => trivial)⟩⟩ rfl rfl hl.1 rfl (lv_room (Nat.le_of_ble_eq_true rfl)) dX11_own_2 ⟨hr_2c, hr_2s⟩) hS (fun q _ h => hFc q h) hFc (fun r_1 u t H1 locs ht hvm hw hB hz1 hk1 hS => ?_)
  obtain ⟨hP1, hK1, hD1⟩ := hB
  rw [ht] at hP1
  obtain ⟨hP, hD⟩ := va_join (wr := []) (w1 := [(h0, .inr (11, [f0, f1, f2, f3, f4, f5, f6, f7, f8, .int 0, .int 0, .int 0, .int 0, f13, f14, f15, .int 0, .int 0, .int 0, .int 0]))]) hP hD [0] [] rfl rfl (by decide +kernel) (by decide +kernel) hk1 hFc hP1 hD1
  generalize H1 = H at hP hS ⊢
  have hP : va_P (dC, dI) vwCl [(h0, .inr (11, [f0, f1, f2, f3, f4, f5, f6, f7, f8, .int 0, .int 0, .int 0, .int 0, f13, f14, f15, .int 0, .int 0, .int 0, .int 0]))] H := hP
  have hD : va_D A [(h0, .inr (11, [f0, f1, f2, f3, f4, f5, f6, f7, f8, .int 0, .int 0, .int 0, .int 0, f13, f14, f15, .int 0, .int 0, .int 0, .int 0]))] := hD
  have hw : r_1 = none := hw
  subst hw
  refine W.eq (g2 := F0 m 5 ls [.null]) rfl ?_
  refine lv_astoreN (lv' := [(5, .null), (0, .ref h0), (1, .int k), (2, .long xm), (4, .int j)]) hx hb dX11_own_5 hl (by decide +kernel) rfl (fun ls hl => ?_)
  refine lv_aloadN hx hb dX11_own_7 (lv_at hl 0 rfl) ?_
  refine lv_ifnonnullN hx hb dX11_own_9 ?_
  refine lv_aload_n hx hb dX11_own_12 rfl (lv_at hl 1 rfl) ?_
  refine lv_iconst (v := 1) hx hb dX11_own_13 (by decide +kernel) ?_
  have hPc := hP.sub (ws' := [(h0, .inr (11, [f0, f1, f2, f3, f4, f5, f6, f7, f8, .int 0, .int 0, .int 0, .int 0, f13, f14, f15, .int 0, .int 0, .int 0, .int 0]))]) [0] rfl
  have hDc := hD.sub (ws' := [(h0, .inr (11, [f0, f1, f2, f3, f4, f5, f6, f7, f8, .int 0, .int 0, .int 0, .int 0, f13, f14, f15, .int 0, .int 0, .int 0, .int 0]))]) [0] (by decide +kernel) rfl
  have hKc := hK.sub (tys' := []) [] rfl
  have hFc := va_free (wc := [(h0, .inr (11, [f0, f1, f2, f3, f4, f5, f6, f7, f8, .int 0, .int 0, .int 0, .int 0, f13, f14, f15, .int 0, .int 0, .int 0, .int 0]))]) hD hS hA [0] rfl
  have hr_4c : 0 + 0 ≤ 0 := by decide +kernel
  have hr_4s : 0 + 0 ≤ 0 := by decide +kernel
  refine va_calli (va_runV (As := [.int 1]) (rest := []) ⟨hx, hb, hml, hown, hts⟩ (k_X11_refuse l dC dI H.size h0 f0 f1 f2 f3 f4 f5 f6 f7 f8 (.int 0) (.int 0) (.int 0) (.int 0) f13 f14 f15 (.int 0) (.int 0) (.int 0) (.int 0) 1) (cwV 1 hts wq_X11_own_g1 rfl rfl rfl (by decide +kernel) ⟨Nat.le_of_ble_eq_true rfl, Nat.le_of_ble_eq_true rfl⟩) ⟨fun a U g mk q => by obtain ⟨q0, q1, qP, qK, qD⟩ := q; exact ⟨q0, q1, qP, va_K.moved (u := U) (U := U.calling g mk a) (Vm.Alike.refl U.vm) qK, qD⟩, va_recv hKc hPc (ci := 11) (q0 := 0) rfl rfl, fun U hU hW => ⟨rfl, by rw [hU], by rw [hU]; exact hPc, va_K.moved hW.alike hKc, hDc.weaken (fun _ _ _ _ => trivial)⟩⟩ rfl rfl hl.1 rfl (lv_room (Nat.le_of_ble_eq_true rfl)) dX11_own_14 ⟨hr_4c, hr_4s⟩) hS (fun q _ h => hFc q h) hFc (fun r_3 u t H1 locs ht hvm hw hB hz1 hk1 hS => ?_)
  obtain ⟨hP1, hK1, hD1⟩ := hB
  rw [ht] at hP1
  obtain ⟨hP, hD⟩ := va_join (wr := []) (w1 := [(h0, .inr (11, [f0, f1, f2, f3, f4, f5, f6, f7, f8, .int 0, .int 0, .int 0, .int 0, f13, f14, f15, .int 0, .int 0, .int 0, .int 1]))]) hP hD [0] [] rfl rfl (by decide +kernel) (by decide +kernel) hk1 hFc hP1 hD1
  generalize H1 = H at hP hS ⊢
  have hP : va_P (dC, dI) vwCl [(h0, .inr (11, [f0, f1, f2, f3, f4, f5, f6, f7, f8, .int 0, .int 0, .int 0, .int 0, f13, f14, f15, .int 0, .int 0, .int 0, .int 1]))] H := hP
  have hD : va_D A [(h0, .inr (11, [f0, f1, f2, f3, f4, f5, f6, f7, f8, .int 0, .int 0, .int 0, .int 0, f13, f14, f15, .int 0, .int 0, .int 0, .int 1]))] := hD
  have hw : r_3 = -1 := hw
  subst hw
  exact W.iret (v := (-1)) hx hb hr (fun t ht hW => ⟨⟨(-1), (), rfl, rfl, trivial⟩, hS.F ht⟩) hS.2.2 dX11_own_17
def wq_X11_message_o : List Cond := []
def wq_X11_message : List Cond := .code yX11_message cX11_message 7 (some .int) :: (wq_X11_message_o ++ ((wsV RX11 162 RX11 yX11_whyNotHosts wq_X11_whyNotHosts) ++ ((wsV RX11 76 RX11 yX11_refuse wq_X11_refuse) ++ ([]))))
set_option maxRecDepth 20000 in
theorem gt_wq_X11_message : GoodIn lw_tbl wq_X11_message := goodIn_ca (goodIn_p (.code yX11_message cX11_message 7 (some .int) :: wq_X11_message_o) [604] (by decide +kernel) (by decide +kernel)) (goodIn_app (goodIn_app (goodIn_of _ (by decide +kernel)) gt_wq_X11_whyNotHosts) (goodIn_app (goodIn_app (goodIn_of _ (by decide +kernel)) gt_wq_X11_refuse) (fun _ h => absurd h List.not_mem_nil)))
set_option maxRecDepth 20000 in
theorem wq_X11_message_g0 : GoodIn wq_X11_message (wsV RX11 162 RX11 yX11_whyNotHosts wq_X11_whyNotHosts) := goodIn_sub (fun w h => List.mem_cons_of_mem _ (List.mem_append_right _ (List.mem_append_left _ h))) (by decide +kernel)
set_option maxRecDepth 20000 in
theorem wq_X11_message_g1 : GoodIn wq_X11_message (wsV RX11 76 RX11 yX11_refuse wq_X11_refuse) := goodIn_sub (fun w h => List.mem_cons_of_mem _ (List.mem_append_right _ (List.mem_append_right _ (List.mem_append_left _ h)))) (by decide +kernel)
set_option maxHeartbeats 4000000 in
set_option maxRecDepth 100000 in
theorem k_X11_message (l : Launch) (dC : Nat → ClassId) (dI : Nat → Nat → Nat) (sz : Nat) (h0 : Nat) (f0 : Value) (f1 : Value) (f2 : Value) (f3 : Value) (f4 : Value) (f5 : Value) (f6 : Value) (f7 : Value) (f8 : Value) (f13 : Value) (f14 : Value) (f15 : Value) (k : Int32) (j : Int32) (a : Int32) (b : Int32) : Met l yX11_message wq_X11_message ({ frames := 10, cells := 0, slots := 0, locals := 1200 }) (va_Pc [.ref h0, .int k, .int j, .int a, .int b] (fun U => U.heap.size = sz ∧ va_P (dC, dI) vwCl [(h0, .inr (11, [f0, f1, f2, f3, f4, f5, f6, f7, f8, .int 0, .int 0, .int 0, .int 0, f13, f14, f15, .int 0, .int 0, .int 0, .int 0]))] U.heap ∧ va_K (dC, dI) vwCl [] U ∧ va_D (fun _ => True) [(h0, .inr (11, [f0, f1, f2, f3, f4, f5, f6, f7, f8, .int 0, .int 0, .int 0, .int 0, f13, f14, f15, .int 0, .int 0, .int 0, .int 0]))])) (va_Qi (fun (r : Int32) (_ : Unit) => r = -1) (fun (_ : Unit) (_ : State) => True) (va_A [(h0, .inr (11, [f0, f1, f2, f3, f4, f5, f6, f7, f8, .int 0, .int 0, .int 0, .int 0, f13, f14, f15, .int 0, .int 0, .int 0, .int 0]))] sz)) 0 0 (va_A [(h0, .inr (11, [f0, f1, f2, f3, f4, f5, f6, f7, f8, .int 0, .int 0, .int 0, .int 0, f13, f14, f15, .int 0, .int 0, .int 0, .int 0]))] sz) := by
  refine Met.ofW (cc := cX11_message) (maxL := 7) (ret := (some .int)) (by decide +kernel) rfl ?_
  intro p e s m args below meth c s₁ B hml hv
  obtain ⟨rfl, hsz, hP, hK, hD0⟩ := hv
  have hx := B.exec
  have hb := B.bytes
  have hr := B.returns
  have hts := atoms_spec (ws := wq_X11_message) B.pre
  have hown : s.vm.findClass RX11 = some m.cls := findClass_of_methodNamed B.named
  have hlocks := B.notSynchronized
  subst hsz
  have hD := hD0.self (sz := s.heap.size)
  generalize hAe : va_A [(h0, .inr (11, [f0, f1, f2, f3, f4, f5, f6, f7, f8, .int 0, .int 0, .int 0, .int 0, f13, f14, f15, .int 0, .int 0, .int 0, .int 0]))] s.heap.size = A at hD ⊢
  have hA : ∀ q : Nat, s.heap.size ≤ q → A q := fun q h => by rw [← hAe]; exact Or.inr h
  have hS : va_S A s.heap s.heap [] := va_S.rf
  have hP : va_P (dC, dI) vwCl [(h0, .inr (11, [f0, f1, f2, f3, f4, f5, f6, f7, f8, .int 0, .int 0, .int 0, .int 0, f13, f14, f15, .int 0, .int 0, .int 0, .int 0]))] s.heap := hP
  have hl := lv_entry ([.ref h0, .int k, .int j, .int a, .int b]) (n := 7) (Nat.le_of_ble_eq_true rfl)
  rw [lg_entry_eq]
  generalize (lg_sl ([.ref h0, .int k, .int j, .int a, .int b]) ++ List.replicate (7 - (lg_sl ([.ref h0, .int k, .int j, .int a, .int b])).length) Slot.unset).toArray = ls at hl ⊢
  have hl : lv_has ls 7 [(0, .ref h0), (1, .int k), (2, .int j), (3, .int a), (4, .int b)] := hl
  refine lv_aload_n hx hb dX11_message_0 rfl (lv_at hl 0 rfl) ?_
  refine lv_iload_n hx hb dX11_message_1 rfl (lv_at hl 1 rfl) ?_
  refine lv_iload_n hx hb dX11_message_2 rfl (lv_at hl 2 rfl) ?_
  have hPc := hP.sub (ws' := [(h0, .inr (11, [f0, f1, f2, f3, f4, f5, f6, f7, f8, .int 0, .int 0, .int 0, .int 0, f13, f14, f15, .int 0, .int 0, .int 0, .int 0]))]) [0] rfl
  have hDc := hD.sub (ws' := [(h0, .inr (11, [f0, f1, f2, f3, f4, f5, f6, f7, f8, .int 0, .int 0, .int 0, .int 0, f13, f14, f15, .int 0, .int 0, .int 0, .int 0]))]) [0] (by decide +kernel) rfl
  have hKc := hK.sub (tys' := []) [] rfl
  have hFc := va_free (wc := [(h0, .inr (11, [f0, f1, f2, f3, f4, f5, f6, f7, f8, .int 0, .int 0, .int 0, .int 0, f13, f14, f15, .int 0, .int 0, .int 0, .int 0]))]) hD hS hA [0] rfl
  have hr_2c : 0 + 0 ≤ 0 := by decide +kernel
  have hr_2s : 0 + 0 ≤ 0 := by decide +kernel
  refine va_calli (va_runV (As := [.int k, .int j]) (rest := []) ⟨hx, hb, hml, hown, hts⟩ (k_X11_whyNotHosts l dC dI s.heap.size h0 f0 f1 f2 f3 f4 f5 f6 f7 f8 (.int 0) (.int 0) (.int 0) f13 f14 f15 (.int 0) (.int 0) (.int 0) (.int 0) k j) (cwV 2 hts wq_X11_message_g0 rfl rfl rfl (by decide +kernel) ⟨Nat.le_of_ble_eq_true rfl, Nat.le_of_ble_eq_true rfl⟩) ⟨fun a U g mk q => by obtain ⟨q0, q1, qP, qK, qD⟩ := q; exact ⟨q0, q1, qP, va_K.moved (u := U) (U := U.calling g mk a) (Vm.Alike.refl U.vm) qK, qD⟩, va_recv hKc hPc (ci := 11) (q0 := 0) rfl rfl, fun U hU hW => ⟨rfl, by rw [hU], by rw [hU]; exact hPc, va_K.moved hW.alike hKc, hDc.weaken (fun _ _ _ _ => trivial)⟩⟩ rfl rfl hl.1 rfl (lv_room (Nat.le_of_ble_eq_true rfl)) dX11_message_3 ⟨hr_2c, hr_2s⟩) hS (fun q _ h => hFc q h) hFc (fun r_1 u t H1 locs ht hvm hw hB hz1 hk1 hS => ?_)
  obtain ⟨hP1, hK1, hD1⟩ := hB
  rw [ht] at hP1
  obtain ⟨hP, hD⟩ := va_join (wr := []) (w1 := [(h0, .inr (11, [f0, f1, f2, f3, f4, f5, f6, f7, f8, .int 0, .int 0, .int 0, .int 0, f13, f14, f15, .int 0, .int 0, .int 0, .int 0]))]) hP hD [0] [] rfl rfl (by decide +kernel) (by decide +kernel) hk1 hFc hP1 hD1
  generalize H1 = H at hP hS ⊢
  have hP : va_P (dC, dI) vwCl [(h0, .inr (11, [f0, f1, f2, f3, f4, f5, f6, f7, f8, .int 0, .int 0, .int 0, .int 0, f13, f14, f15, .int 0, .int 0, .int 0, .int 0]))] H := hP
  have hD : va_D A [(h0, .inr (11, [f0, f1, f2, f3, f4, f5, f6, f7, f8, .int 0, .int 0, .int 0, .int 0, f13, f14, f15, .int 0, .int 0, .int 0, .int 0]))] := hD
  have hw : r_1 = 1 := hw
  subst hw
  refine lv_istore (lv' := [(5, .int 1), (0, .ref h0), (1, .int k), (2, .int j), (3, .int a), (4, .int b)]) hx hb dX11_message_6 hl (by decide +kernel) rfl (fun ls hl => ?_)
  refine lv_iload hx hb dX11_message_8 (lv_at hl 0 rfl) ?_
  refine lv_if_eq (tgt := 20) hx hb dX11_message_10 (by decide +kernel) (fun c_3 => ?_) (fun c_3 => ?_)
  · exact absurd c_3 (by decide +kernel)
  · refine lv_aload_n hx hb dX11_message_13 rfl (lv_at hl 1 rfl) ?_
    refine lv_iload hx hb dX11_message_14 (lv_at hl 0 rfl) ?_
    have hPc := hP.sub (ws' := [(h0, .inr (11, [f0, f1, f2, f3, f4, f5, f6, f7, f8, .int 0, .int 0, .int 0, .int 0, f13, f14, f15, .int 0, .int 0, .int 0, .int 0]))]) [0] rfl
    have hDc := hD.sub (ws' := [(h0, .inr (11, [f0, f1, f2, f3, f4, f5, f6, f7, f8, .int 0, .int 0, .int 0, .int 0, f13, f14, f15, .int 0, .int 0, .int 0, .int 0]))]) [0] (by decide +kernel) rfl
    have hKc := hK.sub (tys' := []) [] rfl
    have hFc := va_free (wc := [(h0, .inr (11, [f0, f1, f2, f3, f4, f5, f6, f7, f8, .int 0, .int 0, .int 0, .int 0, f13, f14, f15, .int 0, .int 0, .int 0, .int 0]))]) hD hS hA [0] rfl
    have hr_5c : 0 + 0 ≤ 0 := by decide +kernel
    have hr_5s : 0 + 0 ≤ 0 := by decide +kernel
    refine va_calli (va_runV (As := [.int 1]) (rest := []) ⟨hx, hb, hml, hown, hts⟩ (k_X11_refuse l dC dI H.size h0 f0 f1 f2 f3 f4 f5 f6 f7 f8 (.int 0) (.int 0) (.int 0) (.int 0) f13 f14 f15 (.int 0) (.int 0) (.int 0) (.int 0) 1) (cwV 1 hts wq_X11_message_g1 rfl rfl rfl (by decide +kernel) ⟨Nat.le_of_ble_eq_true rfl, Nat.le_of_ble_eq_true rfl⟩) ⟨fun a U g mk q => by obtain ⟨q0, q1, qP, qK, qD⟩ := q; exact ⟨q0, q1, qP, va_K.moved (u := U) (U := U.calling g mk a) (Vm.Alike.refl U.vm) qK, qD⟩, va_recv hKc hPc (ci := 11) (q0 := 0) rfl rfl, fun U hU hW => ⟨rfl, by rw [hU], by rw [hU]; exact hPc, va_K.moved hW.alike hKc, hDc.weaken (fun _ _ _ _ => trivial)⟩⟩ rfl rfl hl.1 rfl (lv_room (Nat.le_of_ble_eq_true rfl)) dX11_message_16 ⟨hr_5c, hr_5s⟩) hS (fun q _ h => hFc q h) hFc (fun r_4 u t H1 locs ht hvm hw hB hz1 hk1 hS => ?_)
    obtain ⟨hP1, hK1, hD1⟩ := hB
    rw [ht] at hP1
    obtain ⟨hP, hD⟩ := va_join (wr := []) (w1 := [(h0, .inr (11, [f0, f1, f2, f3, f4, f5, f6, f7, f8, .int 0, .int 0, .int 0, .int 0, f13, f14, f15, .int 0, .int 0, .int 0, .int 1]))]) hP hD [0] [] rfl rfl (by decide +kernel) (by decide +kernel) hk1 hFc hP1 hD1
    generalize H1 = H at hP hS ⊢
    have hP : va_P (dC, dI) vwCl [(h0, .inr (11, [f0, f1, f2, f3, f4, f5, f6, f7, f8, .int 0, .int 0, .int 0, .int 0, f13, f14, f15, .int 0, .int 0, .int 0, .int 1]))] H := hP
    have hD : va_D A [(h0, .inr (11, [f0, f1, f2, f3, f4, f5, f6, f7, f8, .int 0, .int 0, .int 0, .int 0, f13, f14, f15, .int 0, .int 0, .int 0, .int 1]))] := hD
    have hw : r_4 = -1 := hw
    subst hw
    exact W.iret (v := (-1)) hx hb hr (fun t ht hW => ⟨⟨(-1), (), rfl, rfl, trivial⟩, hS.F ht⟩) hS.2.2 dX11_message_19
def wq_X11_echo_o : List Cond := []
def wq_X11_echo : List Cond := .code yX11_echo cX11_echo 9 (some .int) :: (wq_X11_echo_o ++ ((wsV RX11 100 RX11 yX11_nodeAt wq_X11_nodeAt) ++ ((wsV RX11 76 RX11 yX11_refuse wq_X11_refuse) ++ ([]))))
set_option maxRecDepth 20000 in
theorem gt_wq_X11_echo : GoodIn lw_tbl wq_X11_echo := goodIn_ca (goodIn_p (.code yX11_echo cX11_echo 9 (some .int) :: wq_X11_echo_o) [677] (by decide +kernel) (by decide +kernel)) (goodIn_app (goodIn_app (goodIn_of _ (by decide +kernel)) gt_wq_X11_nodeAt) (goodIn_app (goodIn_app (goodIn_of _ (by decide +kernel)) gt_wq_X11_refuse) (fun _ h => absurd h List.not_mem_nil)))
set_option maxRecDepth 20000 in
theorem wq_X11_echo_g0 : GoodIn wq_X11_echo (wsV RX11 100 RX11 yX11_nodeAt wq_X11_nodeAt) := goodIn_sub (fun w h => List.mem_cons_of_mem _ (List.mem_append_right _ (List.mem_append_left _ h))) (by decide +kernel)
set_option maxRecDepth 20000 in
theorem wq_X11_echo_g1 : GoodIn wq_X11_echo (wsV RX11 76 RX11 yX11_refuse wq_X11_refuse) := goodIn_sub (fun w h => List.mem_cons_of_mem _ (List.mem_append_right _ (List.mem_append_right _ (List.mem_append_left _ h)))) (by decide +kernel)
set_option maxHeartbeats 4000000 in
set_option maxRecDepth 100000 in
theorem k_X11_echo (l : Launch) (dC : Nat → ClassId) (dI : Nat → Nat → Nat) (sz : Nat) (h0 : Nat) (f0 : Value) (f1 : Value) (f2 : Value) (f3 : Value) (f4 : Value) (f5 : Value) (f6 : Value) (f7 : Value) (f8 : Value) (f13 : Value) (f14 : Value) (f15 : Value) (k : Int32) (xm : Int64) (xd : Int64) (j : Int32) : Met l yX11_echo wq_X11_echo ({ frames := 10, cells := 0, slots := 0, locals := 1200 }) (va_Pc [.ref h0, .int k, .long xm, .long xd, .int j] (fun U => U.heap.size = sz ∧ va_P (dC, dI) vwCl [(h0, .inr (11, [f0, f1, f2, f3, f4, f5, f6, f7, f8, .int 0, .int 0, .int 0, .int 0, f13, f14, f15, .int 0, .int 0, .int 0, .int 0]))] U.heap ∧ va_K (dC, dI) vwCl [] U ∧ va_D (fun _ => True) [(h0, .inr (11, [f0, f1, f2, f3, f4, f5, f6, f7, f8, .int 0, .int 0, .int 0, .int 0, f13, f14, f15, .int 0, .int 0, .int 0, .int 0]))])) (va_Qi (fun (r : Int32) (_ : Unit) => r = -1) (fun (_ : Unit) (_ : State) => True) (va_A [(h0, .inr (11, [f0, f1, f2, f3, f4, f5, f6, f7, f8, .int 0, .int 0, .int 0, .int 0, f13, f14, f15, .int 0, .int 0, .int 0, .int 0]))] sz)) 0 0 (va_A [(h0, .inr (11, [f0, f1, f2, f3, f4, f5, f6, f7, f8, .int 0, .int 0, .int 0, .int 0, f13, f14, f15, .int 0, .int 0, .int 0, .int 0]))] sz) := by
  refine Met.ofW (cc := cX11_echo) (maxL := 9) (ret := (some .int)) (by decide +kernel) rfl ?_
  intro p e s m args below meth c s₁ B hml hv
  obtain ⟨rfl, hsz, hP, hK, hD0⟩ := hv
  have hx := B.exec
  have hb := B.bytes
  have hr := B.returns
  have hts := atoms_spec (ws := wq_X11_echo) B.pre
  have hown : s.vm.findClass RX11 = some m.cls := findClass_of_methodNamed B.named
  have hlocks := B.notSynchronized
  subst hsz
  have hD := hD0.self (sz := s.heap.size)
  generalize hAe : va_A [(h0, .inr (11, [f0, f1, f2, f3, f4, f5, f6, f7, f8, .int 0, .int 0, .int 0, .int 0, f13, f14, f15, .int 0, .int 0, .int 0, .int 0]))] s.heap.size = A at hD ⊢
  have hA : ∀ q : Nat, s.heap.size ≤ q → A q := fun q h => by rw [← hAe]; exact Or.inr h
  have hS : va_S A s.heap s.heap [] := va_S.rf
  have hP : va_P (dC, dI) vwCl [(h0, .inr (11, [f0, f1, f2, f3, f4, f5, f6, f7, f8, .int 0, .int 0, .int 0, .int 0, f13, f14, f15, .int 0, .int 0, .int 0, .int 0]))] s.heap := hP
  have hl := lv_entry ([.ref h0, .int k, .long xm, .long xd, .int j]) (n := 9) (Nat.le_of_ble_eq_true rfl)
  rw [lg_entry_eq]
  generalize (lg_sl ([.ref h0, .int k, .long xm, .long xd, .int j]) ++ List.replicate (9 - (lg_sl ([.ref h0, .int k, .long xm, .long xd, .int j])).length) Slot.unset).toArray = ls at hl ⊢
  have hl : lv_has ls 9 [(0, .ref h0), (1, .int k), (2, .long xm), (4, .long xd), (6, .int j)] := hl
  refine lv_aload_n hx hb dX11_echo_0 rfl (lv_at hl 0 rfl) ?_
  refine lv_iload_n hx hb dX11_echo_1 rfl (lv_at hl 1 rfl) ?_
  have hPc := hP.sub (ws' := [(h0, .inr (11, [f0, f1, f2, f3, f4, f5, f6, f7, f8, .int 0, .int 0, .int 0, .int 0, f13, f14, f15, .int 0, .int 0, .int 0, .int 0]))]) [0] rfl
  have hDc := hD.sub (ws' := [(h0, .inr (11, [f0, f1, f2, f3, f4, f5, f6, f7, f8, .int 0, .int 0, .int 0, .int 0, f13, f14, f15, .int 0, .int 0, .int 0, .int 0]))]) [0] (by decide +kernel) rfl
  have hKc := hK.sub (tys' := []) [] rfl
  have hFc := va_free (wc := [(h0, .inr (11, [f0, f1, f2, f3, f4, f5, f6, f7, f8, .int 0, .int 0, .int 0, .int 0, f13, f14, f15, .int 0, .int 0, .int 0, .int 0]))]) hD hS hA [0] rfl
  have hr_2c : 0 + 0 ≤ 0 := by decide +kernel
  have hr_2s : 0 + 0 ≤ 0 := by decide +kernel
  refine va_callq (va_runV (As := [.int k]) (rest := []) ⟨hx, hb, hml, hown, hts⟩ (k_X11_nodeAt l dC dI s.heap.size h0 f0 f1 f2 f3 f4 f5 f6 f7 f8 (.int 0) (.int 0) (.int 0) f13 f14 f15 (.int 0) (.int 0) (.int 0) (.int 0) k) (cwV 1 hts wq_X11_echo_g0 rfl rfl rfl (by decide +kernel) ⟨Nat.le_of_ble_eq_true rfl, Nat.le_of_ble_eq_true rfl⟩) ⟨fun a U g mk q => by obtain ⟨q0, q1, qP, qK, qD⟩ := q; exact ⟨q0, q1, qP, va_K.moved (u := U) (U := U.calling g mk a) (Vm.Alike.refl U.vm) qK, qD⟩, va_recv hKc hPc (ci := 11) (q0 := 0) rfl rfl, fun U hU hW => ⟨rfl, by rw [hU], by rw [hU]; exact hPc, va_K.moved hW.alike hKc, hDc.weaken (fun _ _ _ _ => trivial)⟩⟩ rfl rfl hl.1 rfl (lv_room (Nat.le_of_ble_eq_true rfl)) dX11_echo_2 ⟨hr_2c, hr_2s⟩) hS (fun q _ h => hFc q h) hFc (fun r_1 u t H1 locs ht hvm hw hB hz1 hk1 hS => ?_)
  obtain ⟨hP1, hK1, hD1⟩ := hB
  rw [ht] at hP1
  obtain ⟨hP, hD⟩ := va_join (wr := []) (w1 := [(h0, .inr (11, [f0, f1, f2, f3, f4, f5, f6, f7, f8, .int 0, .int 0, .int 0, .int 0, f13, f14, f15, .int 0, .int 0, .int 0, .int 0]))]) hP hD [0] [] rfl rfl (by decide +kernel) (by decide +kernel) hk1 hFc hP1 hD1
  generalize H1 = H at hP hS ⊢
  have hP : va_P (dC, dI) vwCl [(h0, .inr (11, [f0, f1, f2, f3, f4, f5, f6, f7, f8, .int 0, .int 0, .int 0, .int 0, f13, f14, f15, .int 0, .int 0, .int 0, .int 0]))] H := hP
  have hD : va_D A [(h0, .inr (11, [f0, f1, f2, f3, f4, f5, f6, f7, f8, .int 0, .int 0, .int 0, .int 0, f13, f14, f15, .int 0, .int 0, .int 0, .int 0]))] := hD
  have hw : r_1 = none := hw
  subst hw
  refine W.eq (g2 := F0 m 5 ls [.null]) rfl ?_
  refine lv_astoreN (lv' := [(7, .null), (0, .ref h0), (1, .int k), (2, .long xm), (4, .long xd), (6, .int j)]) hx hb dX11_echo_5 hl (by decide +kernel) rfl (fun ls hl => ?_)
  refine lv_aloadN hx hb dX11_echo_7 (lv_at hl 0 rfl) ?_
  refine lv_ifnonnullN hx hb dX11_echo_9 ?_
  refine lv_aload_n hx hb dX11_echo_12 rfl (lv_at hl 1 rfl) ?_
  refine lv_iconst (v := 1) hx hb dX11_echo_13 (by decide +kernel) ?_
  have hPc := hP.sub (ws' := [(h0, .inr (11, [f0, f1, f2, f3, f4, f5, f6, f7, f8, .int 0, .int 0, .int 0, .int 0, f13, f14, f15, .int 0, .int 0, .int 0, .int 0]))]) [0] rfl
  have hDc := hD.sub (ws' := [(h0, .inr (11, [f0, f1, f2, f3, f4, f5, f6, f7, f8, .int 0, .int 0, .int 0, .int 0, f13, f14, f15, .int 0, .int 0, .int 0, .int 0]))]) [0] (by decide +kernel) rfl
  have hKc := hK.sub (tys' := []) [] rfl
  have hFc := va_free (wc := [(h0, .inr (11, [f0, f1, f2, f3, f4, f5, f6, f7, f8, .int 0, .int 0, .int 0, .int 0, f13, f14, f15, .int 0, .int 0, .int 0, .int 0]))]) hD hS hA [0] rfl
  have hr_4c : 0 + 0 ≤ 0 := by decide +kernel
  have hr_4s : 0 + 0 ≤ 0 := by decide +kernel
  refine va_calli (va_runV (As := [.int 1]) (rest := []) ⟨hx, hb, hml, hown, hts⟩ (k_X11_refuse l dC dI H.size h0 f0 f1 f2 f3 f4 f5 f6 f7 f8 (.int 0) (.int 0) (.int 0) (.int 0) f13 f14 f15 (.int 0) (.int 0) (.int 0) (.int 0) 1) (cwV 1 hts wq_X11_echo_g1 rfl rfl rfl (by decide +kernel) ⟨Nat.le_of_ble_eq_true rfl, Nat.le_of_ble_eq_true rfl⟩) ⟨fun a U g mk q => by obtain ⟨q0, q1, qP, qK, qD⟩ := q; exact ⟨q0, q1, qP, va_K.moved (u := U) (U := U.calling g mk a) (Vm.Alike.refl U.vm) qK, qD⟩, va_recv hKc hPc (ci := 11) (q0 := 0) rfl rfl, fun U hU hW => ⟨rfl, by rw [hU], by rw [hU]; exact hPc, va_K.moved hW.alike hKc, hDc.weaken (fun _ _ _ _ => trivial)⟩⟩ rfl rfl hl.1 rfl (lv_room (Nat.le_of_ble_eq_true rfl)) dX11_echo_14 ⟨hr_4c, hr_4s⟩) hS (fun q _ h => hFc q h) hFc (fun r_3 u t H1 locs ht hvm hw hB hz1 hk1 hS => ?_)
  obtain ⟨hP1, hK1, hD1⟩ := hB
  rw [ht] at hP1
  obtain ⟨hP, hD⟩ := va_join (wr := []) (w1 := [(h0, .inr (11, [f0, f1, f2, f3, f4, f5, f6, f7, f8, .int 0, .int 0, .int 0, .int 0, f13, f14, f15, .int 0, .int 0, .int 0, .int 1]))]) hP hD [0] [] rfl rfl (by decide +kernel) (by decide +kernel) hk1 hFc hP1 hD1
  generalize H1 = H at hP hS ⊢
  have hP : va_P (dC, dI) vwCl [(h0, .inr (11, [f0, f1, f2, f3, f4, f5, f6, f7, f8, .int 0, .int 0, .int 0, .int 0, f13, f14, f15, .int 0, .int 0, .int 0, .int 1]))] H := hP
  have hD : va_D A [(h0, .inr (11, [f0, f1, f2, f3, f4, f5, f6, f7, f8, .int 0, .int 0, .int 0, .int 0, f13, f14, f15, .int 0, .int 0, .int 0, .int 1]))] := hD
  have hw : r_3 = -1 := hw
  subst hw
  exact W.iret (v := (-1)) hx hb hr (fun t ht hW => ⟨⟨(-1), (), rfl, rfl, trivial⟩, hS.F ht⟩) hS.2.2 dX11_echo_17
def wq_X11_deliver_o : List Cond := [.fieldLink RX11 38 "SixNet" "flight" "LSixNet$Row;"]
def wq_X11_deliver : List Cond := .code yX11_deliver cX11_deliver 2 (some .int) :: (wq_X11_deliver_o ++ (wsX110 ++ ((wsV RX11 222 RX9 yX9_at wq_X9_at) ++ ((wsV RX11 76 RX11 yX11_refuse wq_X11_refuse) ++ ([])))))
set_option maxRecDepth 20000 in
theorem gt_wq_X11_deliver : GoodIn lw_tbl wq_X11_deliver := goodIn_ca (goodIn_p (.code yX11_deliver cX11_deliver 2 (some .int) :: wq_X11_deliver_o) [1165] (by decide +kernel) (by decide +kernel)) (goodIn_app gt_wsX110 (goodIn_app (goodIn_app (goodIn_of _ (by decide +kernel)) gt_wq_X9_at) (goodIn_app (goodIn_app (goodIn_of _ (by decide +kernel)) gt_wq_X11_refuse) (fun _ h => absurd h List.not_mem_nil))))
set_option maxRecDepth 20000 in
theorem wq_X11_deliver_g1 : GoodIn wq_X11_deliver (wsV RX11 222 RX9 yX9_at wq_X9_at) := goodIn_sub (fun w h => List.mem_cons_of_mem _ (List.mem_append_right _ (List.mem_append_right _ (List.mem_append_left _ h)))) (by decide +kernel)
set_option maxRecDepth 20000 in
theorem wq_X11_deliver_g2 : GoodIn wq_X11_deliver (wsV RX11 76 RX11 yX11_refuse wq_X11_refuse) := goodIn_sub (fun w h => List.mem_cons_of_mem _ (List.mem_append_right _ (List.mem_append_right _ (List.mem_append_right _ (List.mem_append_left _ h))))) (by decide +kernel)
set_option maxHeartbeats 4000000 in
set_option maxRecDepth 100000 in
theorem k_X11_deliver (l : Launch) (dC : Nat → ClassId) (dI : Nat → Nat → Nat) (sz : Nat) (h0 : Nat) (f0 : Value) (f1 : Value) (f2 : Value) (f3 : Value) (f5 : Value) (f6 : Value) (f7 : Value) (f8 : Value) (f13 : Value) (f14 : Value) (f15 : Value) (hf : Nat) (g0 : Value) (k : Int32) : Met l yX11_deliver wq_X11_deliver ({ frames := 10, cells := 0, slots := 0, locals := 1200 }) (va_Pc [.ref h0, .int k] (fun U => U.heap.size = sz ∧ va_P (dC, dI) vwCl [(h0, .inr (11, [f0, f1, f2, f3, .ref hf, f5, f6, f7, f8, .int 0, .int 0, .int 0, .int 0, f13, f14, f15, .int 0, .int 0, .int 0, .int 0])), (hf, .inr (9, [g0, .int 0]))] U.heap ∧ va_K (dC, dI) vwCl [] U ∧ va_D (fun _ => True) [(h0, .inr (11, [f0, f1, f2, f3, .ref hf, f5, f6, f7, f8, .int 0, .int 0, .int 0, .int 0, f13, f14, f15, .int 0, .int 0, .int 0, .int 0])), (hf, .inr (9, [g0, .int 0]))])) (va_Qi (fun (r : Int32) (_ : Unit) => r = -1) (fun (_ : Unit) (_ : State) => True) (va_A [(h0, .inr (11, [f0, f1, f2, f3, .ref hf, f5, f6, f7, f8, .int 0, .int 0, .int 0, .int 0, f13, f14, f15, .int 0, .int 0, .int 0, .int 0])), (hf, .inr (9, [g0, .int 0]))] sz)) 0 0 (va_A [(h0, .inr (11, [f0, f1, f2, f3, .ref hf, f5, f6, f7, f8, .int 0, .int 0, .int 0, .int 0, f13, f14, f15, .int 0, .int 0, .int 0, .int 0])), (hf, .inr (9, [g0, .int 0]))] sz) := by
  refine Met.ofW (cc := cX11_deliver) (maxL := 2) (ret := (some .int)) (by decide +kernel) rfl ?_
  intro p e s m args below meth c s₁ B hml hv
  obtain ⟨rfl, hsz, hP, hK, hD0⟩ := hv
  have hx := B.exec
  have hb := B.bytes
  have hr := B.returns
  have hts := atoms_spec (ws := wq_X11_deliver) B.pre
  have hown : s.vm.findClass RX11 = some m.cls := findClass_of_methodNamed B.named
  have hlocks := B.notSynchronized
  subst hsz
  have hD := hD0.self (sz := s.heap.size)
  generalize hAe : va_A [(h0, .inr (11, [f0, f1, f2, f3, .ref hf, f5, f6, f7, f8, .int 0, .int 0, .int 0, .int 0, f13, f14, f15, .int 0, .int 0, .int 0, .int 0])), (hf, .inr (9, [g0, .int 0]))] s.heap.size = A at hD ⊢
  have hA : ∀ q : Nat, s.heap.size ≤ q → A q := fun q h => by rw [← hAe]; exact Or.inr h
  have hS : va_S A s.heap s.heap [] := va_S.rf
  have hP : va_P (dC, dI) vwCl [(h0, .inr (11, [f0, f1, f2, f3, .ref hf, f5, f6, f7, f8, .int 0, .int 0, .int 0, .int 0, f13, f14, f15, .int 0, .int 0, .int 0, .int 0])), (hf, .inr (9, [g0, .int 0]))] s.heap := hP
  have hl := lv_entry ([.ref h0, .int k]) (n := 2) (Nat.le_of_ble_eq_true rfl)
  rw [lg_entry_eq]
  generalize (lg_sl ([.ref h0, .int k]) ++ List.replicate (2 - (lg_sl ([.ref h0, .int k])).length) Slot.unset).toArray = ls at hl ⊢
  have hl : lv_has ls 2 [(0, .ref h0), (1, .int k)] := hl
  refine lv_aload_n hx hb dX11_deliver_0 rfl (lv_at hl 0 rfl) ?_
  refine va_get (D := (dC, dI)) (ci := 11) (v := .ref hf) (C := RX11) (T := TX11) (N := 20) hx hb hts (fun w h => List.mem_cons_of_mem _ (List.mem_append_right _ (List.mem_append_left _ h))) hown hK hP 0 rfl rfl 4 (by decide +kernel) (hts (.fieldLink RX11 38 "SixNet" "flight" "LSixNet$Row;") (List.mem_cons_of_mem _ (List.mem_append_left _ (List.mem_of_getElem? (i := 0) rfl)))) (fun _ h9 => h9) rfl dX11_deliver_1 ?_
  refine lv_iload_n hx hb dX11_deliver_4 rfl (lv_at hl 1 rfl) ?_
  have hPc := hP.sub (ws' := [(hf, .inr (9, [g0, .int 0]))]) [1] rfl
  have hDc := hD.sub (ws' := [(hf, .inr (9, [g0, .int 0]))]) [1] (by decide +kernel) rfl
  have hKc := hK.sub (tys' := []) [] rfl
  have hFc := va_free (wc := [(hf, .inr (9, [g0, .int 0]))]) hD hS hA [1] rfl
  have hr_2c : 0 + 0 ≤ 0 := by decide +kernel
  have hr_2s : 0 + 0 ≤ 0 := by decide +kernel
  refine va_callq (va_runV (As := [.int k]) (rest := []) ⟨hx, hb, hml, hown, hts⟩ (k_X9_at l dC dI s.heap.size hf g0 k) (cwV 1 hts wq_X11_deliver_g1 rfl rfl rfl (by decide +kernel) ⟨Nat.le_of_ble_eq_true rfl, Nat.le_of_ble_eq_true rfl⟩) ⟨fun a U g mk q => by obtain ⟨q0, q1, qP, qK, qD⟩ := q; exact ⟨q0, q1, qP, va_K.moved (u := U) (U := U.calling g mk a) (Vm.Alike.refl U.vm) qK, qD⟩, va_recv hKc hPc (ci := 9) (q0 := 0) rfl rfl, fun U hU hW => ⟨rfl, by rw [hU], by rw [hU]; exact hPc, va_K.moved hW.alike hKc, hDc.weaken (fun _ _ _ _ => trivial)⟩⟩ rfl rfl hl.1 rfl (lv_room (Nat.le_of_ble_eq_true rfl)) dX11_deliver_5 ⟨hr_2c, hr_2s⟩) hS (fun q _ h => hFc q h) hFc (fun r_1 u t H1 locs ht hvm hw hB hz1 hk1 hS => ?_)
  obtain ⟨hP1, hK1, hD1⟩ := hB
  rw [ht] at hP1
  obtain ⟨hP, hD⟩ := va_join (wr := [(h0, .inr (11, [f0, f1, f2, f3, .ref hf, f5, f6, f7, f8, .int 0, .int 0, .int 0, .int 0, f13, f14, f15, .int 0, .int 0, .int 0, .int 0]))]) (w1 := [(hf, .inr (9, [g0, .int 0]))]) hP hD [1] [0] rfl rfl (by decide +kernel) (by decide +kernel) hk1 hFc hP1 hD1
  generalize H1 = H at hP hS ⊢
  have hP : va_P (dC, dI) vwCl [(h0, .inr (11, [f0, f1, f2, f3, .ref hf, f5, f6, f7, f8, .int 0, .int 0, .int 0, .int 0, f13, f14, f15, .int 0, .int 0, .int 0, .int 0])), (hf, .inr (9, [g0, .int 0]))] H := hP
  have hD : va_D A [(h0, .inr (11, [f0, f1, f2, f3, .ref hf, f5, f6, f7, f8, .int 0, .int 0, .int 0, .int 0, f13, f14, f15, .int 0, .int 0, .int 0, .int 0])), (hf, .inr (9, [g0, .int 0]))] := hD
  have hw : r_1 = none := hw
  subst hw
  refine W.eq (g2 := F0 m 8 ls [.null]) rfl ?_
  refine lv_ifnonnullN hx hb dX11_deliver_8 ?_
  refine lv_aload_n hx hb dX11_deliver_11 rfl (lv_at hl 0 rfl) ?_
  refine lv_iconst (v := 2) hx hb dX11_deliver_12 (by decide +kernel) ?_
  have hPc := hP.sub (ws' := [(h0, .inr (11, [f0, f1, f2, f3, .ref hf, f5, f6, f7, f8, .int 0, .int 0, .int 0, .int 0, f13, f14, f15, .int 0, .int 0, .int 0, .int 0]))]) [0] rfl
  have hDc := hD.sub (ws' := [(h0, .inr (11, [f0, f1, f2, f3, .ref hf, f5, f6, f7, f8, .int 0, .int 0, .int 0, .int 0, f13, f14, f15, .int 0, .int 0, .int 0, .int 0]))]) [0] (by decide +kernel) rfl
  have hKc := hK.sub (tys' := []) [] rfl
  have hFc := va_free (wc := [(h0, .inr (11, [f0, f1, f2, f3, .ref hf, f5, f6, f7, f8, .int 0, .int 0, .int 0, .int 0, f13, f14, f15, .int 0, .int 0, .int 0, .int 0]))]) hD hS hA [0] rfl
  have hr_4c : 0 + 0 ≤ 0 := by decide +kernel
  have hr_4s : 0 + 0 ≤ 0 := by decide +kernel
  refine va_calli (va_runV (As := [.int 2]) (rest := []) ⟨hx, hb, hml, hown, hts⟩ (k_X11_refuse l dC dI H.size h0 f0 f1 f2 f3 (.ref hf) f5 f6 f7 f8 (.int 0) (.int 0) (.int 0) (.int 0) f13 f14 f15 (.int 0) (.int 0) (.int 0) (.int 0) 2) (cwV 1 hts wq_X11_deliver_g2 rfl rfl rfl (by decide +kernel) ⟨Nat.le_of_ble_eq_true rfl, Nat.le_of_ble_eq_true rfl⟩) ⟨fun a U g mk q => by obtain ⟨q0, q1, qP, qK, qD⟩ := q; exact ⟨q0, q1, qP, va_K.moved (u := U) (U := U.calling g mk a) (Vm.Alike.refl U.vm) qK, qD⟩, va_recv hKc hPc (ci := 11) (q0 := 0) rfl rfl, fun U hU hW => ⟨rfl, by rw [hU], by rw [hU]; exact hPc, va_K.moved hW.alike hKc, hDc.weaken (fun _ _ _ _ => trivial)⟩⟩ rfl rfl hl.1 rfl (lv_room (Nat.le_of_ble_eq_true rfl)) dX11_deliver_13 ⟨hr_4c, hr_4s⟩) hS (fun q _ h => hFc q h) hFc (fun r_3 u t H1 locs ht hvm hw hB hz1 hk1 hS => ?_)
  obtain ⟨hP1, hK1, hD1⟩ := hB
  rw [ht] at hP1
  obtain ⟨hP, hD⟩ := va_join (wr := [(hf, .inr (9, [g0, .int 0]))]) (w1 := [(h0, .inr (11, [f0, f1, f2, f3, .ref hf, f5, f6, f7, f8, .int 0, .int 0, .int 0, .int 0, f13, f14, f15, .int 0, .int 0, .int 0, .int 2]))]) hP hD [0] [1] rfl rfl (by decide +kernel) (by decide +kernel) hk1 hFc hP1 hD1
  generalize H1 = H at hP hS ⊢
  have hP : va_P (dC, dI) vwCl [(hf, .inr (9, [g0, .int 0])), (h0, .inr (11, [f0, f1, f2, f3, .ref hf, f5, f6, f7, f8, .int 0, .int 0, .int 0, .int 0, f13, f14, f15, .int 0, .int 0, .int 0, .int 2]))] H := hP
  have hD : va_D A [(hf, .inr (9, [g0, .int 0])), (h0, .inr (11, [f0, f1, f2, f3, .ref hf, f5, f6, f7, f8, .int 0, .int 0, .int 0, .int 0, f13, f14, f15, .int 0, .int 0, .int 0, .int 2]))] := hD
  have hw : r_3 = -1 := hw
  subst hw
  exact W.iret (v := (-1)) hx hb hr (fun t ht hW => ⟨⟨(-1), (), rfl, rfl, trivial⟩, hS.F ht⟩) hS.2.2 dX11_deliver_16
def wq_X11_drop_o : List Cond := [.fieldLink RX11 38 "SixNet" "flight" "LSixNet$Row;"]
def wq_X11_drop : List Cond := .code yX11_drop cX11_drop 2 (some .int) :: (wq_X11_drop_o ++ (wsX110 ++ ((wsV RX11 222 RX9 yX9_at wq_X9_at) ++ ((wsV RX11 76 RX11 yX11_refuse wq_X11_refuse) ++ ([])))))
set_option maxRecDepth 20000 in
theorem gt_wq_X11_drop : GoodIn lw_tbl wq_X11_drop := goodIn_ca (goodIn_p (.code yX11_drop cX11_drop 2 (some .int) :: wq_X11_drop_o) [1248] (by decide +kernel) (by decide +kernel)) (goodIn_app gt_wsX110 (goodIn_app (goodIn_app (goodIn_of _ (by decide +kernel)) gt_wq_X9_at) (goodIn_app (goodIn_app (goodIn_of _ (by decide +kernel)) gt_wq_X11_refuse) (fun _ h => absurd h List.not_mem_nil))))
set_option maxRecDepth 20000 in
theorem wq_X11_drop_g1 : GoodIn wq_X11_drop (wsV RX11 222 RX9 yX9_at wq_X9_at) := goodIn_sub (fun w h => List.mem_cons_of_mem _ (List.mem_append_right _ (List.mem_append_right _ (List.mem_append_left _ h)))) (by decide +kernel)
set_option maxRecDepth 20000 in
theorem wq_X11_drop_g2 : GoodIn wq_X11_drop (wsV RX11 76 RX11 yX11_refuse wq_X11_refuse) := goodIn_sub (fun w h => List.mem_cons_of_mem _ (List.mem_append_right _ (List.mem_append_right _ (List.mem_append_right _ (List.mem_append_left _ h))))) (by decide +kernel)
set_option maxHeartbeats 4000000 in
set_option maxRecDepth 100000 in
theorem k_X11_drop (l : Launch) (dC : Nat → ClassId) (dI : Nat → Nat → Nat) (sz : Nat) (h0 : Nat) (f0 : Value) (f1 : Value) (f2 : Value) (f3 : Value) (f5 : Value) (f6 : Value) (f7 : Value) (f8 : Value) (f13 : Value) (f14 : Value) (f15 : Value) (hf : Nat) (g0 : Value) (k : Int32) : Met l yX11_drop wq_X11_drop ({ frames := 10, cells := 0, slots := 0, locals := 1200 }) (va_Pc [.ref h0, .int k] (fun U => U.heap.size = sz ∧ va_P (dC, dI) vwCl [(h0, .inr (11, [f0, f1, f2, f3, .ref hf, f5, f6, f7, f8, .int 0, .int 0, .int 0, .int 0, f13, f14, f15, .int 0, .int 0, .int 0, .int 0])), (hf, .inr (9, [g0, .int 0]))] U.heap ∧ va_K (dC, dI) vwCl [] U ∧ va_D (fun _ => True) [(h0, .inr (11, [f0, f1, f2, f3, .ref hf, f5, f6, f7, f8, .int 0, .int 0, .int 0, .int 0, f13, f14, f15, .int 0, .int 0, .int 0, .int 0])), (hf, .inr (9, [g0, .int 0]))])) (va_Qi (fun (r : Int32) (_ : Unit) => r = -1) (fun (_ : Unit) (_ : State) => True) (va_A [(h0, .inr (11, [f0, f1, f2, f3, .ref hf, f5, f6, f7, f8, .int 0, .int 0, .int 0, .int 0, f13, f14, f15, .int 0, .int 0, .int 0, .int 0])), (hf, .inr (9, [g0, .int 0]))] sz)) 0 0 (va_A [(h0, .inr (11, [f0, f1, f2, f3, .ref hf, f5, f6, f7, f8, .int 0, .int 0, .int 0, .int 0, f13, f14, f15, .int 0, .int 0, .int 0, .int 0])), (hf, .inr (9, [g0, .int 0]))] sz) := by
  refine Met.ofW (cc := cX11_drop) (maxL := 2) (ret := (some .int)) (by decide +kernel) rfl ?_
  intro p e s m args below meth c s₁ B hml hv
  obtain ⟨rfl, hsz, hP, hK, hD0⟩ := hv
  have hx := B.exec
  have hb := B.bytes
  have hr := B.returns
  have hts := atoms_spec (ws := wq_X11_drop) B.pre
  have hown : s.vm.findClass RX11 = some m.cls := findClass_of_methodNamed B.named
  have hlocks := B.notSynchronized
  subst hsz
  have hD := hD0.self (sz := s.heap.size)
  generalize hAe : va_A [(h0, .inr (11, [f0, f1, f2, f3, .ref hf, f5, f6, f7, f8, .int 0, .int 0, .int 0, .int 0, f13, f14, f15, .int 0, .int 0, .int 0, .int 0])), (hf, .inr (9, [g0, .int 0]))] s.heap.size = A at hD ⊢
  have hA : ∀ q : Nat, s.heap.size ≤ q → A q := fun q h => by rw [← hAe]; exact Or.inr h
  have hS : va_S A s.heap s.heap [] := va_S.rf
  have hP : va_P (dC, dI) vwCl [(h0, .inr (11, [f0, f1, f2, f3, .ref hf, f5, f6, f7, f8, .int 0, .int 0, .int 0, .int 0, f13, f14, f15, .int 0, .int 0, .int 0, .int 0])), (hf, .inr (9, [g0, .int 0]))] s.heap := hP
  have hl := lv_entry ([.ref h0, .int k]) (n := 2) (Nat.le_of_ble_eq_true rfl)
  rw [lg_entry_eq]
  generalize (lg_sl ([.ref h0, .int k]) ++ List.replicate (2 - (lg_sl ([.ref h0, .int k])).length) Slot.unset).toArray = ls at hl ⊢
  have hl : lv_has ls 2 [(0, .ref h0), (1, .int k)] := hl
  refine lv_aload_n hx hb dX11_drop_0 rfl (lv_at hl 0 rfl) ?_
  refine va_get (D := (dC, dI)) (ci := 11) (v := .ref hf) (C := RX11) (T := TX11) (N := 20) hx hb hts (fun w h => List.mem_cons_of_mem _ (List.mem_append_right _ (List.mem_append_left _ h))) hown hK hP 0 rfl rfl 4 (by decide +kernel) (hts (.fieldLink RX11 38 "SixNet" "flight" "LSixNet$Row;") (List.mem_cons_of_mem _ (List.mem_append_left _ (List.mem_of_getElem? (i := 0) rfl)))) (fun _ h9 => h9) rfl dX11_drop_1 ?_
  refine lv_iload_n hx hb dX11_drop_4 rfl (lv_at hl 1 rfl) ?_
  have hPc := hP.sub (ws' := [(hf, .inr (9, [g0, .int 0]))]) [1] rfl
  have hDc := hD.sub (ws' := [(hf, .inr (9, [g0, .int 0]))]) [1] (by decide +kernel) rfl
  have hKc := hK.sub (tys' := []) [] rfl
  have hFc := va_free (wc := [(hf, .inr (9, [g0, .int 0]))]) hD hS hA [1] rfl
  have hr_2c : 0 + 0 ≤ 0 := by decide +kernel
  have hr_2s : 0 + 0 ≤ 0 := by decide +kernel
  refine va_callq (va_runV (As := [.int k]) (rest := []) ⟨hx, hb, hml, hown, hts⟩ (k_X9_at l dC dI s.heap.size hf g0 k) (cwV 1 hts wq_X11_drop_g1 rfl rfl rfl (by decide +kernel) ⟨Nat.le_of_ble_eq_true rfl, Nat.le_of_ble_eq_true rfl⟩) ⟨fun a U g mk q => by obtain ⟨q0, q1, qP, qK, qD⟩ := q; exact ⟨q0, q1, qP, va_K.moved (u := U) (U := U.calling g mk a) (Vm.Alike.refl U.vm) qK, qD⟩, va_recv hKc hPc (ci := 9) (q0 := 0) rfl rfl, fun U hU hW => ⟨rfl, by rw [hU], by rw [hU]; exact hPc, va_K.moved hW.alike hKc, hDc.weaken (fun _ _ _ _ => trivial)⟩⟩ rfl rfl hl.1 rfl (lv_room (Nat.le_of_ble_eq_true rfl)) dX11_drop_5 ⟨hr_2c, hr_2s⟩) hS (fun q _ h => hFc q h) hFc (fun r_1 u t H1 locs ht hvm hw hB hz1 hk1 hS => ?_)
  obtain ⟨hP1, hK1, hD1⟩ := hB
  rw [ht] at hP1
  obtain ⟨hP, hD⟩ := va_join (wr := [(h0, .inr (11, [f0, f1, f2, f3, .ref hf, f5, f6, f7, f8, .int 0, .int 0, .int 0, .int 0, f13, f14, f15, .int 0, .int 0, .int 0, .int 0]))]) (w1 := [(hf, .inr (9, [g0, .int 0]))]) hP hD [1] [0] rfl rfl (by decide +kernel) (by decide +kernel) hk1 hFc hP1 hD1
  generalize H1 = H at hP hS ⊢
  have hP : va_P (dC, dI) vwCl [(h0, .inr (11, [f0, f1, f2, f3, .ref hf, f5, f6, f7, f8, .int 0, .int 0, .int 0, .int 0, f13, f14, f15, .int 0, .int 0, .int 0, .int 0])), (hf, .inr (9, [g0, .int 0]))] H := hP
  have hD : va_D A [(h0, .inr (11, [f0, f1, f2, f3, .ref hf, f5, f6, f7, f8, .int 0, .int 0, .int 0, .int 0, f13, f14, f15, .int 0, .int 0, .int 0, .int 0])), (hf, .inr (9, [g0, .int 0]))] := hD
  have hw : r_1 = none := hw
  subst hw
  refine W.eq (g2 := F0 m 8 ls [.null]) rfl ?_
  refine lv_ifnonnullN hx hb dX11_drop_8 ?_
  refine lv_aload_n hx hb dX11_drop_11 rfl (lv_at hl 0 rfl) ?_
  refine lv_iconst (v := 2) hx hb dX11_drop_12 (by decide +kernel) ?_
  have hPc := hP.sub (ws' := [(h0, .inr (11, [f0, f1, f2, f3, .ref hf, f5, f6, f7, f8, .int 0, .int 0, .int 0, .int 0, f13, f14, f15, .int 0, .int 0, .int 0, .int 0]))]) [0] rfl
  have hDc := hD.sub (ws' := [(h0, .inr (11, [f0, f1, f2, f3, .ref hf, f5, f6, f7, f8, .int 0, .int 0, .int 0, .int 0, f13, f14, f15, .int 0, .int 0, .int 0, .int 0]))]) [0] (by decide +kernel) rfl
  have hKc := hK.sub (tys' := []) [] rfl
  have hFc := va_free (wc := [(h0, .inr (11, [f0, f1, f2, f3, .ref hf, f5, f6, f7, f8, .int 0, .int 0, .int 0, .int 0, f13, f14, f15, .int 0, .int 0, .int 0, .int 0]))]) hD hS hA [0] rfl
  have hr_4c : 0 + 0 ≤ 0 := by decide +kernel
  have hr_4s : 0 + 0 ≤ 0 := by decide +kernel
  refine va_calli (va_runV (As := [.int 2]) (rest := []) ⟨hx, hb, hml, hown, hts⟩ (k_X11_refuse l dC dI H.size h0 f0 f1 f2 f3 (.ref hf) f5 f6 f7 f8 (.int 0) (.int 0) (.int 0) (.int 0) f13 f14 f15 (.int 0) (.int 0) (.int 0) (.int 0) 2) (cwV 1 hts wq_X11_drop_g2 rfl rfl rfl (by decide +kernel) ⟨Nat.le_of_ble_eq_true rfl, Nat.le_of_ble_eq_true rfl⟩) ⟨fun a U g mk q => by obtain ⟨q0, q1, qP, qK, qD⟩ := q; exact ⟨q0, q1, qP, va_K.moved (u := U) (U := U.calling g mk a) (Vm.Alike.refl U.vm) qK, qD⟩, va_recv hKc hPc (ci := 11) (q0 := 0) rfl rfl, fun U hU hW => ⟨rfl, by rw [hU], by rw [hU]; exact hPc, va_K.moved hW.alike hKc, hDc.weaken (fun _ _ _ _ => trivial)⟩⟩ rfl rfl hl.1 rfl (lv_room (Nat.le_of_ble_eq_true rfl)) dX11_drop_13 ⟨hr_4c, hr_4s⟩) hS (fun q _ h => hFc q h) hFc (fun r_3 u t H1 locs ht hvm hw hB hz1 hk1 hS => ?_)
  obtain ⟨hP1, hK1, hD1⟩ := hB
  rw [ht] at hP1
  obtain ⟨hP, hD⟩ := va_join (wr := [(hf, .inr (9, [g0, .int 0]))]) (w1 := [(h0, .inr (11, [f0, f1, f2, f3, .ref hf, f5, f6, f7, f8, .int 0, .int 0, .int 0, .int 0, f13, f14, f15, .int 0, .int 0, .int 0, .int 2]))]) hP hD [0] [1] rfl rfl (by decide +kernel) (by decide +kernel) hk1 hFc hP1 hD1
  generalize H1 = H at hP hS ⊢
  have hP : va_P (dC, dI) vwCl [(hf, .inr (9, [g0, .int 0])), (h0, .inr (11, [f0, f1, f2, f3, .ref hf, f5, f6, f7, f8, .int 0, .int 0, .int 0, .int 0, f13, f14, f15, .int 0, .int 0, .int 0, .int 2]))] H := hP
  have hD : va_D A [(hf, .inr (9, [g0, .int 0])), (h0, .inr (11, [f0, f1, f2, f3, .ref hf, f5, f6, f7, f8, .int 0, .int 0, .int 0, .int 0, f13, f14, f15, .int 0, .int 0, .int 0, .int 2]))] := hD
  have hw : r_3 = -1 := hw
  subst hw
  exact W.iret (v := (-1)) hx hb hr (fun t ht hW => ⟨⟨(-1), (), rfl, rfl, trivial⟩, hS.F ht⟩) hS.2.2 dX11_drop_16
def wq_X11_twice_o : List Cond := [.fieldLink RX11 38 "SixNet" "flight" "LSixNet$Row;"]
def wq_X11_twice : List Cond := .code yX11_twice cX11_twice 4 (some .int) :: (wq_X11_twice_o ++ (wsX110 ++ ((wsV RX11 222 RX9 yX9_at wq_X9_at) ++ ((wsV RX11 76 RX11 yX11_refuse wq_X11_refuse) ++ ([])))))
set_option maxRecDepth 20000 in
theorem gt_wq_X11_twice : GoodIn lw_tbl wq_X11_twice := goodIn_ca (goodIn_p (.code yX11_twice cX11_twice 4 (some .int) :: wq_X11_twice_o) [1252] (by decide +kernel) (by decide +kernel)) (goodIn_app gt_wsX110 (goodIn_app (goodIn_app (goodIn_of _ (by decide +kernel)) gt_wq_X9_at) (goodIn_app (goodIn_app (goodIn_of _ (by decide +kernel)) gt_wq_X11_refuse) (fun _ h => absurd h List.not_mem_nil))))
set_option maxRecDepth 20000 in
theorem wq_X11_twice_g1 : GoodIn wq_X11_twice (wsV RX11 222 RX9 yX9_at wq_X9_at) := goodIn_sub (fun w h => List.mem_cons_of_mem _ (List.mem_append_right _ (List.mem_append_right _ (List.mem_append_left _ h)))) (by decide +kernel)
set_option maxRecDepth 20000 in
theorem wq_X11_twice_g2 : GoodIn wq_X11_twice (wsV RX11 76 RX11 yX11_refuse wq_X11_refuse) := goodIn_sub (fun w h => List.mem_cons_of_mem _ (List.mem_append_right _ (List.mem_append_right _ (List.mem_append_right _ (List.mem_append_left _ h))))) (by decide +kernel)
set_option maxHeartbeats 4000000 in
set_option maxRecDepth 100000 in
theorem k_X11_twice (l : Launch) (dC : Nat → ClassId) (dI : Nat → Nat → Nat) (sz : Nat) (h0 : Nat) (f0 : Value) (f1 : Value) (f2 : Value) (f3 : Value) (f5 : Value) (f6 : Value) (f7 : Value) (f8 : Value) (f13 : Value) (f14 : Value) (f15 : Value) (hf : Nat) (g0 : Value) (k : Int32) : Met l yX11_twice wq_X11_twice ({ frames := 10, cells := 0, slots := 0, locals := 1200 }) (va_Pc [.ref h0, .int k] (fun U => U.heap.size = sz ∧ va_P (dC, dI) vwCl [(h0, .inr (11, [f0, f1, f2, f3, .ref hf, f5, f6, f7, f8, .int 0, .int 0, .int 0, .int 0, f13, f14, f15, .int 0, .int 0, .int 0, .int 0])), (hf, .inr (9, [g0, .int 0]))] U.heap ∧ va_K (dC, dI) vwCl [] U ∧ va_D (fun _ => True) [(h0, .inr (11, [f0, f1, f2, f3, .ref hf, f5, f6, f7, f8, .int 0, .int 0, .int 0, .int 0, f13, f14, f15, .int 0, .int 0, .int 0, .int 0])), (hf, .inr (9, [g0, .int 0]))])) (va_Qi (fun (r : Int32) (_ : Unit) => r = -1) (fun (_ : Unit) (_ : State) => True) (va_A [(h0, .inr (11, [f0, f1, f2, f3, .ref hf, f5, f6, f7, f8, .int 0, .int 0, .int 0, .int 0, f13, f14, f15, .int 0, .int 0, .int 0, .int 0])), (hf, .inr (9, [g0, .int 0]))] sz)) 0 0 (va_A [(h0, .inr (11, [f0, f1, f2, f3, .ref hf, f5, f6, f7, f8, .int 0, .int 0, .int 0, .int 0, f13, f14, f15, .int 0, .int 0, .int 0, .int 0])), (hf, .inr (9, [g0, .int 0]))] sz) := by
  refine Met.ofW (cc := cX11_twice) (maxL := 4) (ret := (some .int)) (by decide +kernel) rfl ?_
  intro p e s m args below meth c s₁ B hml hv
  obtain ⟨rfl, hsz, hP, hK, hD0⟩ := hv
  have hx := B.exec
  have hb := B.bytes
  have hr := B.returns
  have hts := atoms_spec (ws := wq_X11_twice) B.pre
  have hown : s.vm.findClass RX11 = some m.cls := findClass_of_methodNamed B.named
  have hlocks := B.notSynchronized
  subst hsz
  have hD := hD0.self (sz := s.heap.size)
  generalize hAe : va_A [(h0, .inr (11, [f0, f1, f2, f3, .ref hf, f5, f6, f7, f8, .int 0, .int 0, .int 0, .int 0, f13, f14, f15, .int 0, .int 0, .int 0, .int 0])), (hf, .inr (9, [g0, .int 0]))] s.heap.size = A at hD ⊢
  have hA : ∀ q : Nat, s.heap.size ≤ q → A q := fun q h => by rw [← hAe]; exact Or.inr h
  have hS : va_S A s.heap s.heap [] := va_S.rf
  have hP : va_P (dC, dI) vwCl [(h0, .inr (11, [f0, f1, f2, f3, .ref hf, f5, f6, f7, f8, .int 0, .int 0, .int 0, .int 0, f13, f14, f15, .int 0, .int 0, .int 0, .int 0])), (hf, .inr (9, [g0, .int 0]))] s.heap := hP
  have hl := lv_entry ([.ref h0, .int k]) (n := 4) (Nat.le_of_ble_eq_true rfl)
  rw [lg_entry_eq]
  generalize (lg_sl ([.ref h0, .int k]) ++ List.replicate (4 - (lg_sl ([.ref h0, .int k])).length) Slot.unset).toArray = ls at hl ⊢
  have hl : lv_has ls 4 [(0, .ref h0), (1, .int k)] := hl
  refine lv_aload_n hx hb dX11_twice_0 rfl (lv_at hl 0 rfl) ?_
  refine va_get (D := (dC, dI)) (ci := 11) (v := .ref hf) (C := RX11) (T := TX11) (N := 20) hx hb hts (fun w h => List.mem_cons_of_mem _ (List.mem_append_right _ (List.mem_append_left _ h))) hown hK hP 0 rfl rfl 4 (by decide +kernel) (hts (.fieldLink RX11 38 "SixNet" "flight" "LSixNet$Row;") (List.mem_cons_of_mem _ (List.mem_append_left _ (List.mem_of_getElem? (i := 0) rfl)))) (fun _ h9 => h9) rfl dX11_twice_1 ?_
  refine lv_iload_n hx hb dX11_twice_4 rfl (lv_at hl 1 rfl) ?_
  have hPc := hP.sub (ws' := [(hf, .inr (9, [g0, .int 0]))]) [1] rfl
  have hDc := hD.sub (ws' := [(hf, .inr (9, [g0, .int 0]))]) [1] (by decide +kernel) rfl
  have hKc := hK.sub (tys' := []) [] rfl
  have hFc := va_free (wc := [(hf, .inr (9, [g0, .int 0]))]) hD hS hA [1] rfl
  have hr_2c : 0 + 0 ≤ 0 := by decide +kernel
  have hr_2s : 0 + 0 ≤ 0 := by decide +kernel
  refine va_callq (va_runV (As := [.int k]) (rest := []) ⟨hx, hb, hml, hown, hts⟩ (k_X9_at l dC dI s.heap.size hf g0 k) (cwV 1 hts wq_X11_twice_g1 rfl rfl rfl (by decide +kernel) ⟨Nat.le_of_ble_eq_true rfl, Nat.le_of_ble_eq_true rfl⟩) ⟨fun a U g mk q => by obtain ⟨q0, q1, qP, qK, qD⟩ := q; exact ⟨q0, q1, qP, va_K.moved (u := U) (U := U.calling g mk a) (Vm.Alike.refl U.vm) qK, qD⟩, va_recv hKc hPc (ci := 9) (q0 := 0) rfl rfl, fun U hU hW => ⟨rfl, by rw [hU], by rw [hU]; exact hPc, va_K.moved hW.alike hKc, hDc.weaken (fun _ _ _ _ => trivial)⟩⟩ rfl rfl hl.1 rfl (lv_room (Nat.le_of_ble_eq_true rfl)) dX11_twice_5 ⟨hr_2c, hr_2s⟩) hS (fun q _ h => hFc q h) hFc (fun r_1 u t H1 locs ht hvm hw hB hz1 hk1 hS => ?_)
  obtain ⟨hP1, hK1, hD1⟩ := hB
  rw [ht] at hP1
  obtain ⟨hP, hD⟩ := va_join (wr := [(h0, .inr (11, [f0, f1, f2, f3, .ref hf, f5, f6, f7, f8, .int 0, .int 0, .int 0, .int 0, f13, f14, f15, .int 0, .int 0, .int 0, .int 0]))]) (w1 := [(hf, .inr (9, [g0, .int 0]))]) hP hD [1] [0] rfl rfl (by decide +kernel) (by decide +kernel) hk1 hFc hP1 hD1
  generalize H1 = H at hP hS ⊢
  have hP : va_P (dC, dI) vwCl [(h0, .inr (11, [f0, f1, f2, f3, .ref hf, f5, f6, f7, f8, .int 0, .int 0, .int 0, .int 0, f13, f14, f15, .int 0, .int 0, .int 0, .int 0])), (hf, .inr (9, [g0, .int 0]))] H := hP
  have hD : va_D A [(h0, .inr (11, [f0, f1, f2, f3, .ref hf, f5, f6, f7, f8, .int 0, .int 0, .int 0, .int 0, f13, f14, f15, .int 0, .int 0, .int 0, .int 0])), (hf, .inr (9, [g0, .int 0]))] := hD
  have hw : r_1 = none := hw
  subst hw
  refine W.eq (g2 := F0 m 8 ls [.null]) rfl ?_
  refine lv_astore_nN (lv' := [(2, .null), (0, .ref h0), (1, .int k)]) hx hb dX11_twice_8 rfl hl (by decide +kernel) rfl (fun ls hl => ?_)
  refine lv_aload_nN hx hb dX11_twice_9 rfl (lv_at hl 0 rfl) ?_
  refine lv_ifnonnullN hx hb dX11_twice_10 ?_
  refine lv_aload_n hx hb dX11_twice_13 rfl (lv_at hl 1 rfl) ?_
  refine lv_iconst (v := 2) hx hb dX11_twice_14 (by decide +kernel) ?_
  have hPc := hP.sub (ws' := [(h0, .inr (11, [f0, f1, f2, f3, .ref hf, f5, f6, f7, f8, .int 0, .int 0, .int 0, .int 0, f13, f14, f15, .int 0, .int 0, .int 0, .int 0]))]) [0] rfl
  have hDc := hD.sub (ws' := [(h0, .inr (11, [f0, f1, f2, f3, .ref hf, f5, f6, f7, f8, .int 0, .int 0, .int 0, .int 0, f13, f14, f15, .int 0, .int 0, .int 0, .int 0]))]) [0] (by decide +kernel) rfl
  have hKc := hK.sub (tys' := []) [] rfl
  have hFc := va_free (wc := [(h0, .inr (11, [f0, f1, f2, f3, .ref hf, f5, f6, f7, f8, .int 0, .int 0, .int 0, .int 0, f13, f14, f15, .int 0, .int 0, .int 0, .int 0]))]) hD hS hA [0] rfl
  have hr_4c : 0 + 0 ≤ 0 := by decide +kernel
  have hr_4s : 0 + 0 ≤ 0 := by decide +kernel
  refine va_calli (va_runV (As := [.int 2]) (rest := []) ⟨hx, hb, hml, hown, hts⟩ (k_X11_refuse l dC dI H.size h0 f0 f1 f2 f3 (.ref hf) f5 f6 f7 f8 (.int 0) (.int 0) (.int 0) (.int 0) f13 f14 f15 (.int 0) (.int 0) (.int 0) (.int 0) 2) (cwV 1 hts wq_X11_twice_g2 rfl rfl rfl (by decide +kernel) ⟨Nat.le_of_ble_eq_true rfl, Nat.le_of_ble_eq_true rfl⟩) ⟨fun a U g mk q => by obtain ⟨q0, q1, qP, qK, qD⟩ := q; exact ⟨q0, q1, qP, va_K.moved (u := U) (U := U.calling g mk a) (Vm.Alike.refl U.vm) qK, qD⟩, va_recv hKc hPc (ci := 11) (q0 := 0) rfl rfl, fun U hU hW => ⟨rfl, by rw [hU], by rw [hU]; exact hPc, va_K.moved hW.alike hKc, hDc.weaken (fun _ _ _ _ => trivial)⟩⟩ rfl rfl hl.1 rfl (lv_room (Nat.le_of_ble_eq_true rfl)) dX11_twice_15 ⟨hr_4c, hr_4s⟩) hS (fun q _ h => hFc q h) hFc (fun r_3 u t H1 locs ht hvm hw hB hz1 hk1 hS => ?_)
  obtain ⟨hP1, hK1, hD1⟩ := hB
  rw [ht] at hP1
  obtain ⟨hP, hD⟩ := va_join (wr := [(hf, .inr (9, [g0, .int 0]))]) (w1 := [(h0, .inr (11, [f0, f1, f2, f3, .ref hf, f5, f6, f7, f8, .int 0, .int 0, .int 0, .int 0, f13, f14, f15, .int 0, .int 0, .int 0, .int 2]))]) hP hD [0] [1] rfl rfl (by decide +kernel) (by decide +kernel) hk1 hFc hP1 hD1
  generalize H1 = H at hP hS ⊢
  have hP : va_P (dC, dI) vwCl [(hf, .inr (9, [g0, .int 0])), (h0, .inr (11, [f0, f1, f2, f3, .ref hf, f5, f6, f7, f8, .int 0, .int 0, .int 0, .int 0, f13, f14, f15, .int 0, .int 0, .int 0, .int 2]))] H := hP
  have hD : va_D A [(hf, .inr (9, [g0, .int 0])), (h0, .inr (11, [f0, f1, f2, f3, .ref hf, f5, f6, f7, f8, .int 0, .int 0, .int 0, .int 0, f13, f14, f15, .int 0, .int 0, .int 0, .int 2]))] := hD
  have hw : r_3 = -1 := hw
  subst hw
  exact W.iret (v := (-1)) hx hb hr (fun t ht hW => ⟨⟨(-1), (), rfl, rfl, trivial⟩, hS.F ht⟩) hS.2.2 dX11_twice_18
def wq_X11_raise_o : List Cond := []
def wq_X11_raise : List Cond := .code yX11_raise cX11_raise 8 (some .int) :: (wq_X11_raise_o ++ ((wsV RX11 104 RX11 yX11_linkAt wq_X11_linkAt) ++ ((wsV RX11 76 RX11 yX11_refuse wq_X11_refuse) ++ ([]))))
set_option maxRecDepth 20000 in
theorem gt_wq_X11_raise : GoodIn lw_tbl wq_X11_raise := goodIn_ca (goodIn_p (.code yX11_raise cX11_raise 8 (some .int) :: wq_X11_raise_o) [1260] (by decide +kernel) (by decide +kernel)) (goodIn_app (goodIn_app (goodIn_of _ (by decide +kernel)) gt_wq_X11_linkAt) (goodIn_app (goodIn_app (goodIn_of _ (by decide +kernel)) gt_wq_X11_refuse) (fun _ h => absurd h List.not_mem_nil)))
set_option maxRecDepth 20000 in
theorem wq_X11_raise_g0 : GoodIn wq_X11_raise (wsV RX11 104 RX11 yX11_linkAt wq_X11_linkAt) := goodIn_sub (fun w h => List.mem_cons_of_mem _ (List.mem_append_right _ (List.mem_append_left _ h))) (by decide +kernel)
set_option maxRecDepth 20000 in
theorem wq_X11_raise_g1 : GoodIn wq_X11_raise (wsV RX11 76 RX11 yX11_refuse wq_X11_refuse) := goodIn_sub (fun w h => List.mem_cons_of_mem _ (List.mem_append_right _ (List.mem_append_right _ (List.mem_append_left _ h)))) (by decide +kernel)
set_option maxHeartbeats 4000000 in
set_option maxRecDepth 100000 in
theorem k_X11_raise (l : Launch) (dC : Nat → ClassId) (dI : Nat → Nat → Nat) (sz : Nat) (h0 : Nat) (f0 : Value) (f1 : Value) (f2 : Value) (f3 : Value) (f4 : Value) (f5 : Value) (f6 : Value) (f7 : Value) (f8 : Value) (f13 : Value) (f14 : Value) (f15 : Value) (k : Int32) (j : Int32) : Met l yX11_raise wq_X11_raise ({ frames := 10, cells := 0, slots := 0, locals := 1200 }) (va_Pc [.ref h0, .int k, .int j] (fun U => U.heap.size = sz ∧ va_P (dC, dI) vwCl [(h0, .inr (11, [f0, f1, f2, f3, f4, f5, f6, f7, f8, .int 0, .int 0, .int 0, .int 0, f13, f14, f15, .int 0, .int 0, .int 0, .int 0]))] U.heap ∧ va_K (dC, dI) vwCl [] U ∧ va_D (fun _ => True) [(h0, .inr (11, [f0, f1, f2, f3, f4, f5, f6, f7, f8, .int 0, .int 0, .int 0, .int 0, f13, f14, f15, .int 0, .int 0, .int 0, .int 0]))])) (va_Qi (fun (r : Int32) (_ : Unit) => r = -1) (fun (_ : Unit) (_ : State) => True) (va_A [(h0, .inr (11, [f0, f1, f2, f3, f4, f5, f6, f7, f8, .int 0, .int 0, .int 0, .int 0, f13, f14, f15, .int 0, .int 0, .int 0, .int 0]))] sz)) 0 0 (va_A [(h0, .inr (11, [f0, f1, f2, f3, f4, f5, f6, f7, f8, .int 0, .int 0, .int 0, .int 0, f13, f14, f15, .int 0, .int 0, .int 0, .int 0]))] sz) := by
  refine Met.ofW (cc := cX11_raise) (maxL := 8) (ret := (some .int)) (by decide +kernel) rfl ?_
  intro p e s m args below meth c s₁ B hml hv
  obtain ⟨rfl, hsz, hP, hK, hD0⟩ := hv
  have hx := B.exec
  have hb := B.bytes
  have hr := B.returns
  have hts := atoms_spec (ws := wq_X11_raise) B.pre
  have hown : s.vm.findClass RX11 = some m.cls := findClass_of_methodNamed B.named
  have hlocks := B.notSynchronized
  subst hsz
  have hD := hD0.self (sz := s.heap.size)
  generalize hAe : va_A [(h0, .inr (11, [f0, f1, f2, f3, f4, f5, f6, f7, f8, .int 0, .int 0, .int 0, .int 0, f13, f14, f15, .int 0, .int 0, .int 0, .int 0]))] s.heap.size = A at hD ⊢
  have hA : ∀ q : Nat, s.heap.size ≤ q → A q := fun q h => by rw [← hAe]; exact Or.inr h
  have hS : va_S A s.heap s.heap [] := va_S.rf
  have hP : va_P (dC, dI) vwCl [(h0, .inr (11, [f0, f1, f2, f3, f4, f5, f6, f7, f8, .int 0, .int 0, .int 0, .int 0, f13, f14, f15, .int 0, .int 0, .int 0, .int 0]))] s.heap := hP
  have hl := lv_entry ([.ref h0, .int k, .int j]) (n := 8) (Nat.le_of_ble_eq_true rfl)
  rw [lg_entry_eq]
  generalize (lg_sl ([.ref h0, .int k, .int j]) ++ List.replicate (8 - (lg_sl ([.ref h0, .int k, .int j])).length) Slot.unset).toArray = ls at hl ⊢
  have hl : lv_has ls 8 [(0, .ref h0), (1, .int k), (2, .int j)] := hl
  refine lv_aload_n hx hb dX11_raise_0 rfl (lv_at hl 0 rfl) ?_
  refine lv_iload_n hx hb dX11_raise_1 rfl (lv_at hl 1 rfl) ?_
  have hPc := hP.sub (ws' := [(h0, .inr (11, [f0, f1, f2, f3, f4, f5, f6, f7, f8, .int 0, .int 0, .int 0, .int 0, f13, f14, f15, .int 0, .int 0, .int 0, .int 0]))]) [0] rfl
  have hDc := hD.sub (ws' := [(h0, .inr (11, [f0, f1, f2, f3, f4, f5, f6, f7, f8, .int 0, .int 0, .int 0, .int 0, f13, f14, f15, .int 0, .int 0, .int 0, .int 0]))]) [0] (by decide +kernel) rfl
  have hKc := hK.sub (tys' := []) [] rfl
  have hFc := va_free (wc := [(h0, .inr (11, [f0, f1, f2, f3, f4, f5, f6, f7, f8, .int 0, .int 0, .int 0, .int 0, f13, f14, f15, .int 0, .int 0, .int 0, .int 0]))]) hD hS hA [0] rfl
  have hr_2c : 0 + 0 ≤ 0 := by decide +kernel
  have hr_2s : 0 + 0 ≤ 0 := by decide +kernel
  refine va_callq (va_runV (As := [.int k]) (rest := []) ⟨hx, hb, hml, hown, hts⟩ (k_X11_linkAt l dC dI s.heap.size h0 f0 f1 f2 f3 f4 f5 f6 f7 f8 (.int 0) (.int 0) (.int 0) f13 f14 f15 (.int 0) (.int 0) (.int 0) (.int 0) k) (cwV 1 hts wq_X11_raise_g0 rfl rfl rfl (by decide +kernel) ⟨Nat.le_of_ble_eq_true rfl, Nat.le_of_ble_eq_true rfl⟩) ⟨fun a U g mk q => by obtain ⟨q0, q1, qP, qK, qD⟩ := q; exact ⟨q0, q1, qP, va_K.moved (u := U) (U := U.calling g mk a) (Vm.Alike.refl U.vm) qK, qD⟩, va_recv hKc hPc (ci := 11) (q0 := 0) rfl rfl, fun U hU hW => ⟨rfl, by rw [hU], by rw [hU]; exact hPc, va_K.moved hW.alike hKc, hDc.weaken (fun _ _ _ _ => trivial)⟩⟩ rfl rfl hl.1 rfl (lv_room (Nat.le_of_ble_eq_true rfl)) dX11_raise_2 ⟨hr_2c, hr_2s⟩) hS (fun q _ h => hFc q h) hFc (fun r_1 u t H1 locs ht hvm hw hB hz1 hk1 hS => ?_)
  obtain ⟨hP1, hK1, hD1⟩ := hB
  rw [ht] at hP1
  obtain ⟨hP, hD⟩ := va_join (wr := []) (w1 := [(h0, .inr (11, [f0, f1, f2, f3, f4, f5, f6, f7, f8, .int 0, .int 0, .int 0, .int 0, f13, f14, f15, .int 0, .int 0, .int 0, .int 0]))]) hP hD [0] [] rfl rfl (by decide +kernel) (by decide +kernel) hk1 hFc hP1 hD1
  generalize H1 = H at hP hS ⊢
  have hP : va_P (dC, dI) vwCl [(h0, .inr (11, [f0, f1, f2, f3, f4, f5, f6, f7, f8, .int 0, .int 0, .int 0, .int 0, f13, f14, f15, .int 0, .int 0, .int 0, .int 0]))] H := hP
  have hD : va_D A [(h0, .inr (11, [f0, f1, f2, f3, f4, f5, f6, f7, f8, .int 0, .int 0, .int 0, .int 0, f13, f14, f15, .int 0, .int 0, .int 0, .int 0]))] := hD
  have hw : r_1 = none := hw
  subst hw
  refine W.eq (g2 := F0 m 5 ls [.null]) rfl ?_
  refine lv_astore_nN (lv' := [(3, .null), (0, .ref h0), (1, .int k), (2, .int j)]) hx hb dX11_raise_5 rfl hl (by decide +kernel) rfl (fun ls hl => ?_)
  refine lv_aload_nN hx hb dX11_raise_6 rfl (lv_at hl 0 rfl) ?_
  refine lv_ifnonnullN hx hb dX11_raise_7 ?_
  refine lv_aload_n hx hb dX11_raise_10 rfl (lv_at hl 1 rfl) ?_
  refine lv_iconst (v := 1) hx hb dX11_raise_11 (by decide +kernel) ?_
  have hPc := hP.sub (ws' := [(h0, .inr (11, [f0, f1, f2, f3, f4, f5, f6, f7, f8, .int 0, .int 0, .int 0, .int 0, f13, f14, f15, .int 0, .int 0, .int 0, .int 0]))]) [0] rfl
  have hDc := hD.sub (ws' := [(h0, .inr (11, [f0, f1, f2, f3, f4, f5, f6, f7, f8, .int 0, .int 0, .int 0, .int 0, f13, f14, f15, .int 0, .int 0, .int 0, .int 0]))]) [0] (by decide +kernel) rfl
  have hKc := hK.sub (tys' := []) [] rfl
  have hFc := va_free (wc := [(h0, .inr (11, [f0, f1, f2, f3, f4, f5, f6, f7, f8, .int 0, .int 0, .int 0, .int 0, f13, f14, f15, .int 0, .int 0, .int 0, .int 0]))]) hD hS hA [0] rfl
  have hr_4c : 0 + 0 ≤ 0 := by decide +kernel
  have hr_4s : 0 + 0 ≤ 0 := by decide +kernel
  refine va_calli (va_runV (As := [.int 1]) (rest := []) ⟨hx, hb, hml, hown, hts⟩ (k_X11_refuse l dC dI H.size h0 f0 f1 f2 f3 f4 f5 f6 f7 f8 (.int 0) (.int 0) (.int 0) (.int 0) f13 f14 f15 (.int 0) (.int 0) (.int 0) (.int 0) 1) (cwV 1 hts wq_X11_raise_g1 rfl rfl rfl (by decide +kernel) ⟨Nat.le_of_ble_eq_true rfl, Nat.le_of_ble_eq_true rfl⟩) ⟨fun a U g mk q => by obtain ⟨q0, q1, qP, qK, qD⟩ := q; exact ⟨q0, q1, qP, va_K.moved (u := U) (U := U.calling g mk a) (Vm.Alike.refl U.vm) qK, qD⟩, va_recv hKc hPc (ci := 11) (q0 := 0) rfl rfl, fun U hU hW => ⟨rfl, by rw [hU], by rw [hU]; exact hPc, va_K.moved hW.alike hKc, hDc.weaken (fun _ _ _ _ => trivial)⟩⟩ rfl rfl hl.1 rfl (lv_room (Nat.le_of_ble_eq_true rfl)) dX11_raise_12 ⟨hr_4c, hr_4s⟩) hS (fun q _ h => hFc q h) hFc (fun r_3 u t H1 locs ht hvm hw hB hz1 hk1 hS => ?_)
  obtain ⟨hP1, hK1, hD1⟩ := hB
  rw [ht] at hP1
  obtain ⟨hP, hD⟩ := va_join (wr := []) (w1 := [(h0, .inr (11, [f0, f1, f2, f3, f4, f5, f6, f7, f8, .int 0, .int 0, .int 0, .int 0, f13, f14, f15, .int 0, .int 0, .int 0, .int 1]))]) hP hD [0] [] rfl rfl (by decide +kernel) (by decide +kernel) hk1 hFc hP1 hD1
  generalize H1 = H at hP hS ⊢
  have hP : va_P (dC, dI) vwCl [(h0, .inr (11, [f0, f1, f2, f3, f4, f5, f6, f7, f8, .int 0, .int 0, .int 0, .int 0, f13, f14, f15, .int 0, .int 0, .int 0, .int 1]))] H := hP
  have hD : va_D A [(h0, .inr (11, [f0, f1, f2, f3, f4, f5, f6, f7, f8, .int 0, .int 0, .int 0, .int 0, f13, f14, f15, .int 0, .int 0, .int 0, .int 1]))] := hD
  have hw : r_3 = -1 := hw
  subst hw
  exact W.iret (v := (-1)) hx hb hr (fun t ht hW => ⟨⟨(-1), (), rfl, rfl, trivial⟩, hS.F ht⟩) hS.2.2 dX11_raise_15
def wq_X11_frames_o : List Cond := [.fieldLink RX11 38 "SixNet" "flight" "LSixNet$Row;", .fieldLink RX11 229 "SixNet$Row" "count" "I"]
def wq_X11_frames : List Cond := .code yX11_frames cX11_frames 1 (some .int) :: (wq_X11_frames_o ++ (wsX110 ++ (wsX90 ++ ([]))))
set_option maxRecDepth 20000 in
theorem gt_wq_X11_frames : GoodIn lw_tbl wq_X11_frames := goodIn_ca (goodIn_p (.code yX11_frames cX11_frames 1 (some .int) :: wq_X11_frames_o) [1268] (by decide +kernel) (by decide +kernel)) (goodIn_app gt_wsX110 (goodIn_app gt_wsX90 (fun _ h => absurd h List.not_mem_nil)))
set_option maxHeartbeats 4000000 in
set_option maxRecDepth 100000 in
theorem k_X11_frames (l : Launch) (dC : Nat → ClassId) (dI : Nat → Nat → Nat) (sz : Nat) (h0 : Nat) (f0 : Value) (f1 : Value) (f2 : Value) (f3 : Value) (f5 : Value) (f6 : Value) (f7 : Value) (f8 : Value) (f13 : Value) (f14 : Value) (f15 : Value) (hf : Nat) (g0 : Value) : Met l yX11_frames wq_X11_frames ({ frames := 10, cells := 0, slots := 0, locals := 1200 }) (va_Pc [.ref h0] (fun U => U.heap.size = sz ∧ va_P (dC, dI) vwCl [(h0, .inr (11, [f0, f1, f2, f3, .ref hf, f5, f6, f7, f8, .int 0, .int 0, .int 0, .int 0, f13, f14, f15, .int 0, .int 0, .int 0, .int 0])), (hf, .inr (9, [g0, .int 0]))] U.heap ∧ va_K (dC, dI) vwCl [] U ∧ va_D (fun _ => True) [(h0, .inr (11, [f0, f1, f2, f3, .ref hf, f5, f6, f7, f8, .int 0, .int 0, .int 0, .int 0, f13, f14, f15, .int 0, .int 0, .int 0, .int 0])), (hf, .inr (9, [g0, .int 0]))])) (va_Qi (fun (r : Int32) (_ : Unit) => r = 0) (fun (_ : Unit) (_ : State) => True) (va_A [(h0, .inr (11, [f0, f1, f2, f3, .ref hf, f5, f6, f7, f8, .int 0, .int 0, .int 0, .int 0, f13, f14, f15, .int 0, .int 0, .int 0, .int 0])), (hf, .inr (9, [g0, .int 0]))] sz)) 0 0 (va_A [(h0, .inr (11, [f0, f1, f2, f3, .ref hf, f5, f6, f7, f8, .int 0, .int 0, .int 0, .int 0, f13, f14, f15, .int 0, .int 0, .int 0, .int 0])), (hf, .inr (9, [g0, .int 0]))] sz) := by
  refine Met.ofW (cc := cX11_frames) (maxL := 1) (ret := (some .int)) (by decide +kernel) rfl ?_
  intro p e s m args below meth c s₁ B hml hv
  obtain ⟨rfl, hsz, hP, hK, hD0⟩ := hv
  have hx := B.exec
  have hb := B.bytes
  have hr := B.returns
  have hts := atoms_spec (ws := wq_X11_frames) B.pre
  have hown : s.vm.findClass RX11 = some m.cls := findClass_of_methodNamed B.named
  have hlocks := B.notSynchronized
  subst hsz
  have hD := hD0.self (sz := s.heap.size)
  generalize hAe : va_A [(h0, .inr (11, [f0, f1, f2, f3, .ref hf, f5, f6, f7, f8, .int 0, .int 0, .int 0, .int 0, f13, f14, f15, .int 0, .int 0, .int 0, .int 0])), (hf, .inr (9, [g0, .int 0]))] s.heap.size = A at hD ⊢
  have hA : ∀ q : Nat, s.heap.size ≤ q → A q := fun q h => by rw [← hAe]; exact Or.inr h
  have hS : va_S A s.heap s.heap [] := va_S.rf
  have hP : va_P (dC, dI) vwCl [(h0, .inr (11, [f0, f1, f2, f3, .ref hf, f5, f6, f7, f8, .int 0, .int 0, .int 0, .int 0, f13, f14, f15, .int 0, .int 0, .int 0, .int 0])), (hf, .inr (9, [g0, .int 0]))] s.heap := hP
  have hl := lv_entry ([.ref h0]) (n := 1) (Nat.le_of_ble_eq_true rfl)
  rw [lg_entry_eq]
  generalize (lg_sl ([.ref h0]) ++ List.replicate (1 - (lg_sl ([.ref h0])).length) Slot.unset).toArray = ls at hl ⊢
  have hl : lv_has ls 1 [(0, .ref h0)] := hl
  refine lv_aload_n hx hb dX11_frames_0 rfl (lv_at hl 0 rfl) ?_
  refine va_get (D := (dC, dI)) (ci := 11) (v := .ref hf) (C := RX11) (T := TX11) (N := 20) hx hb hts (fun w h => List.mem_cons_of_mem _ (List.mem_append_right _ (List.mem_append_left _ h))) hown hK hP 0 rfl rfl 4 (by decide +kernel) (hts (.fieldLink RX11 38 "SixNet" "flight" "LSixNet$Row;") (List.mem_cons_of_mem _ (List.mem_append_left _ (List.mem_of_getElem? (i := 0) rfl)))) (fun _ h9 => h9) rfl dX11_frames_1 ?_
  refine va_get (D := (dC, dI)) (ci := 9) (v := .int 0) (C := RX9) (T := TX9) (N := 2) hx hb hts (fun w h => List.mem_cons_of_mem _ (List.mem_append_right _ (List.mem_append_right _ (List.mem_append_left _ h)))) hown hK hP 1 rfl rfl 1 (by decide +kernel) (hts (.fieldLink RX11 229 "SixNet$Row" "count" "I") (List.mem_cons_of_mem _ (List.mem_append_left _ (List.mem_of_getElem? (i := 1) rfl)))) (fun _ h9 => h9) rfl dX11_frames_4 ?_
  exact W.iret (v := 0) hx hb hr (fun t ht hW => ⟨⟨0, (), rfl, rfl, trivial⟩, hS.F ht⟩) hS.2.2 dX11_frames_7
def wq_X11_frame_o : List Cond := [.fieldLink RX11 38 "SixNet" "flight" "LSixNet$Row;"]
def wq_X11_frame : List Cond := .code yX11_frame cX11_frame 4 (some .int) :: (wq_X11_frame_o ++ (wsX110 ++ ((wsV RX11 222 RX9 yX9_at wq_X9_at) ++ ((wsV RX11 76 RX11 yX11_refuse wq_X11_refuse) ++ ([])))))
set_option maxRecDepth 20000 in
theorem gt_wq_X11_frame : GoodIn lw_tbl wq_X11_frame := goodIn_ca (goodIn_p (.code yX11_frame cX11_frame 4 (some .int) :: wq_X11_frame_o) [1272] (by decide +kernel) (by decide +kernel)) (goodIn_app gt_wsX110 (goodIn_app (goodIn_app (goodIn_of _ (by decide +kernel)) gt_wq_X9_at) (goodIn_app (goodIn_app (goodIn_of _ (by decide +kernel)) gt_wq_X11_refuse) (fun _ h => absurd h List.not_mem_nil))))
set_option maxRecDepth 20000 in
theorem wq_X11_frame_g1 : GoodIn wq_X11_frame (wsV RX11 222 RX9 yX9_at wq_X9_at) := goodIn_sub (fun w h => List.mem_cons_of_mem _ (List.mem_append_right _ (List.mem_append_right _ (List.mem_append_left _ h)))) (by decide +kernel)
set_option maxRecDepth 20000 in
theorem wq_X11_frame_g2 : GoodIn wq_X11_frame (wsV RX11 76 RX11 yX11_refuse wq_X11_refuse) := goodIn_sub (fun w h => List.mem_cons_of_mem _ (List.mem_append_right _ (List.mem_append_right _ (List.mem_append_right _ (List.mem_append_left _ h))))) (by decide +kernel)
set_option maxHeartbeats 4000000 in
set_option maxRecDepth 100000 in
theorem k_X11_frame (l : Launch) (dC : Nat → ClassId) (dI : Nat → Nat → Nat) (sz : Nat) (h0 : Nat) (f0 : Value) (f1 : Value) (f2 : Value) (f3 : Value) (f5 : Value) (f6 : Value) (f7 : Value) (f8 : Value) (f13 : Value) (f14 : Value) (f15 : Value) (hf : Nat) (g0 : Value) (k : Int32) (j : Int32) : Met l yX11_frame wq_X11_frame ({ frames := 10, cells := 0, slots := 0, locals := 1200 }) (va_Pc [.ref h0, .int k, .int j] (fun U => U.heap.size = sz ∧ va_P (dC, dI) vwCl [(h0, .inr (11, [f0, f1, f2, f3, .ref hf, f5, f6, f7, f8, .int 0, .int 0, .int 0, .int 0, f13, f14, f15, .int 0, .int 0, .int 0, .int 0])), (hf, .inr (9, [g0, .int 0]))] U.heap ∧ va_K (dC, dI) vwCl [] U ∧ va_D (fun _ => True) [(h0, .inr (11, [f0, f1, f2, f3, .ref hf, f5, f6, f7, f8, .int 0, .int 0, .int 0, .int 0, f13, f14, f15, .int 0, .int 0, .int 0, .int 0])), (hf, .inr (9, [g0, .int 0]))])) (va_Qi (fun (r : Int32) (_ : Unit) => r = -1) (fun (_ : Unit) (_ : State) => True) (va_A [(h0, .inr (11, [f0, f1, f2, f3, .ref hf, f5, f6, f7, f8, .int 0, .int 0, .int 0, .int 0, f13, f14, f15, .int 0, .int 0, .int 0, .int 0])), (hf, .inr (9, [g0, .int 0]))] sz)) 0 0 (va_A [(h0, .inr (11, [f0, f1, f2, f3, .ref hf, f5, f6, f7, f8, .int 0, .int 0, .int 0, .int 0, f13, f14, f15, .int 0, .int 0, .int 0, .int 0])), (hf, .inr (9, [g0, .int 0]))] sz) := by
  refine Met.ofW (cc := cX11_frame) (maxL := 4) (ret := (some .int)) (by decide +kernel) rfl ?_
  intro p e s m args below meth c s₁ B hml hv
  obtain ⟨rfl, hsz, hP, hK, hD0⟩ := hv
  have hx := B.exec
  have hb := B.bytes
  have hr := B.returns
  have hts := atoms_spec (ws := wq_X11_frame) B.pre
  have hown : s.vm.findClass RX11 = some m.cls := findClass_of_methodNamed B.named
  have hlocks := B.notSynchronized
  subst hsz
  have hD := hD0.self (sz := s.heap.size)
  generalize hAe : va_A [(h0, .inr (11, [f0, f1, f2, f3, .ref hf, f5, f6, f7, f8, .int 0, .int 0, .int 0, .int 0, f13, f14, f15, .int 0, .int 0, .int 0, .int 0])), (hf, .inr (9, [g0, .int 0]))] s.heap.size = A at hD ⊢
  have hA : ∀ q : Nat, s.heap.size ≤ q → A q := fun q h => by rw [← hAe]; exact Or.inr h
  have hS : va_S A s.heap s.heap [] := va_S.rf
  have hP : va_P (dC, dI) vwCl [(h0, .inr (11, [f0, f1, f2, f3, .ref hf, f5, f6, f7, f8, .int 0, .int 0, .int 0, .int 0, f13, f14, f15, .int 0, .int 0, .int 0, .int 0])), (hf, .inr (9, [g0, .int 0]))] s.heap := hP
  have hl := lv_entry ([.ref h0, .int k, .int j]) (n := 4) (Nat.le_of_ble_eq_true rfl)
  rw [lg_entry_eq]
  generalize (lg_sl ([.ref h0, .int k, .int j]) ++ List.replicate (4 - (lg_sl ([.ref h0, .int k, .int j])).length) Slot.unset).toArray = ls at hl ⊢
  have hl : lv_has ls 4 [(0, .ref h0), (1, .int k), (2, .int j)] := hl
  refine lv_aload_n hx hb dX11_frame_0 rfl (lv_at hl 0 rfl) ?_
  refine va_get (D := (dC, dI)) (ci := 11) (v := .ref hf) (C := RX11) (T := TX11) (N := 20) hx hb hts (fun w h => List.mem_cons_of_mem _ (List.mem_append_right _ (List.mem_append_left _ h))) hown hK hP 0 rfl rfl 4 (by decide +kernel) (hts (.fieldLink RX11 38 "SixNet" "flight" "LSixNet$Row;") (List.mem_cons_of_mem _ (List.mem_append_left _ (List.mem_of_getElem? (i := 0) rfl)))) (fun _ h9 => h9) rfl dX11_frame_1 ?_
  refine lv_iload_n hx hb dX11_frame_4 rfl (lv_at hl 1 rfl) ?_
  have hPc := hP.sub (ws' := [(hf, .inr (9, [g0, .int 0]))]) [1] rfl
  have hDc := hD.sub (ws' := [(hf, .inr (9, [g0, .int 0]))]) [1] (by decide +kernel) rfl
  have hKc := hK.sub (tys' := []) [] rfl
  have hFc := va_free (wc := [(hf, .inr (9, [g0, .int 0]))]) hD hS hA [1] rfl
  have hr_2c : 0 + 0 ≤ 0 := by decide +kernel
  have hr_2s : 0 + 0 ≤ 0 := by decide +kernel
  refine va_callq (va_runV (As := [.int k]) (rest := []) ⟨hx, hb, hml, hown, hts⟩ (k_X9_at l dC dI s.heap.size hf g0 k) (cwV 1 hts wq_X11_frame_g1 rfl rfl rfl (by decide +kernel) ⟨Nat.le_of_ble_eq_true rfl, Nat.le_of_ble_eq_true rfl⟩) ⟨fun a U g mk q => by obtain ⟨q0, q1, qP, qK, qD⟩ := q; exact ⟨q0, q1, qP, va_K.moved (u := U) (U := U.calling g mk a) (Vm.Alike.refl U.vm) qK, qD⟩, va_recv hKc hPc (ci := 9) (q0 := 0) rfl rfl, fun U hU hW => ⟨rfl, by rw [hU], by rw [hU]; exact hPc, va_K.moved hW.alike hKc, hDc.weaken (fun _ _ _ _ => trivial)⟩⟩ rfl rfl hl.1 rfl (lv_room (Nat.le_of_ble_eq_true rfl)) dX11_frame_5 ⟨hr_2c, hr_2s⟩) hS (fun q _ h => hFc q h) hFc (fun r_1 u t H1 locs ht hvm hw hB hz1 hk1 hS => ?_)
  obtain ⟨hP1, hK1, hD1⟩ := hB
  rw [ht] at hP1
  obtain ⟨hP, hD⟩ := va_join (wr := [(h0, .inr (11, [f0, f1, f2, f3, .ref hf, f5, f6, f7, f8, .int 0, .int 0, .int 0, .int 0, f13, f14, f15, .int 0, .int 0, .int 0, .int 0]))]) (w1 := [(hf, .inr (9, [g0, .int 0]))]) hP hD [1] [0] rfl rfl (by decide +kernel) (by decide +kernel) hk1 hFc hP1 hD1
  generalize H1 = H at hP hS ⊢
  have hP : va_P (dC, dI) vwCl [(h0, .inr (11, [f0, f1, f2, f3, .ref hf, f5, f6, f7, f8, .int 0, .int 0, .int 0, .int 0, f13, f14, f15, .int 0, .int 0, .int 0, .int 0])), (hf, .inr (9, [g0, .int 0]))] H := hP
  have hD : va_D A [(h0, .inr (11, [f0, f1, f2, f3, .ref hf, f5, f6, f7, f8, .int 0, .int 0, .int 0, .int 0, f13, f14, f15, .int 0, .int 0, .int 0, .int 0])), (hf, .inr (9, [g0, .int 0]))] := hD
  have hw : r_1 = none := hw
  subst hw
  refine W.eq (g2 := F0 m 8 ls [.null]) rfl ?_
  refine lv_astore_nN (lv' := [(3, .null), (0, .ref h0), (1, .int k), (2, .int j)]) hx hb dX11_frame_8 rfl hl (by decide +kernel) rfl (fun ls hl => ?_)
  refine lv_aload_nN hx hb dX11_frame_9 rfl (lv_at hl 0 rfl) ?_
  refine lv_ifnonnullN hx hb dX11_frame_10 ?_
  refine lv_aload_n hx hb dX11_frame_13 rfl (lv_at hl 1 rfl) ?_
  refine lv_iconst (v := 2) hx hb dX11_frame_14 (by decide +kernel) ?_
  have hPc := hP.sub (ws' := [(h0, .inr (11, [f0, f1, f2, f3, .ref hf, f5, f6, f7, f8, .int 0, .int 0, .int 0, .int 0, f13, f14, f15, .int 0, .int 0, .int 0, .int 0]))]) [0] rfl
  have hDc := hD.sub (ws' := [(h0, .inr (11, [f0, f1, f2, f3, .ref hf, f5, f6, f7, f8, .int 0, .int 0, .int 0, .int 0, f13, f14, f15, .int 0, .int 0, .int 0, .int 0]))]) [0] (by decide +kernel) rfl
  have hKc := hK.sub (tys' := []) [] rfl
  have hFc := va_free (wc := [(h0, .inr (11, [f0, f1, f2, f3, .ref hf, f5, f6, f7, f8, .int 0, .int 0, .int 0, .int 0, f13, f14, f15, .int 0, .int 0, .int 0, .int 0]))]) hD hS hA [0] rfl
  have hr_4c : 0 + 0 ≤ 0 := by decide +kernel
  have hr_4s : 0 + 0 ≤ 0 := by decide +kernel
  refine va_calli (va_runV (As := [.int 2]) (rest := []) ⟨hx, hb, hml, hown, hts⟩ (k_X11_refuse l dC dI H.size h0 f0 f1 f2 f3 (.ref hf) f5 f6 f7 f8 (.int 0) (.int 0) (.int 0) (.int 0) f13 f14 f15 (.int 0) (.int 0) (.int 0) (.int 0) 2) (cwV 1 hts wq_X11_frame_g2 rfl rfl rfl (by decide +kernel) ⟨Nat.le_of_ble_eq_true rfl, Nat.le_of_ble_eq_true rfl⟩) ⟨fun a U g mk q => by obtain ⟨q0, q1, qP, qK, qD⟩ := q; exact ⟨q0, q1, qP, va_K.moved (u := U) (U := U.calling g mk a) (Vm.Alike.refl U.vm) qK, qD⟩, va_recv hKc hPc (ci := 11) (q0 := 0) rfl rfl, fun U hU hW => ⟨rfl, by rw [hU], by rw [hU]; exact hPc, va_K.moved hW.alike hKc, hDc.weaken (fun _ _ _ _ => trivial)⟩⟩ rfl rfl hl.1 rfl (lv_room (Nat.le_of_ble_eq_true rfl)) dX11_frame_15 ⟨hr_4c, hr_4s⟩) hS (fun q _ h => hFc q h) hFc (fun r_3 u t H1 locs ht hvm hw hB hz1 hk1 hS => ?_)
  obtain ⟨hP1, hK1, hD1⟩ := hB
  rw [ht] at hP1
  obtain ⟨hP, hD⟩ := va_join (wr := [(hf, .inr (9, [g0, .int 0]))]) (w1 := [(h0, .inr (11, [f0, f1, f2, f3, .ref hf, f5, f6, f7, f8, .int 0, .int 0, .int 0, .int 0, f13, f14, f15, .int 0, .int 0, .int 0, .int 2]))]) hP hD [0] [1] rfl rfl (by decide +kernel) (by decide +kernel) hk1 hFc hP1 hD1
  generalize H1 = H at hP hS ⊢
  have hP : va_P (dC, dI) vwCl [(hf, .inr (9, [g0, .int 0])), (h0, .inr (11, [f0, f1, f2, f3, .ref hf, f5, f6, f7, f8, .int 0, .int 0, .int 0, .int 0, f13, f14, f15, .int 0, .int 0, .int 0, .int 2]))] H := hP
  have hD : va_D A [(hf, .inr (9, [g0, .int 0])), (h0, .inr (11, [f0, f1, f2, f3, .ref hf, f5, f6, f7, f8, .int 0, .int 0, .int 0, .int 0, f13, f14, f15, .int 0, .int 0, .int 0, .int 2]))] := hD
  have hw : r_3 = -1 := hw
  subst hw
  exact W.iret (v := (-1)) hx hb hr (fun t ht hW => ⟨⟨(-1), (), rfl, rfl, trivial⟩, hS.F ht⟩) hS.2.2 dX11_frame_18
def wq_X11_bytes_o : List Cond := [.fieldLink RX11 38 "SixNet" "flight" "LSixNet$Row;"]
def wq_X11_bytes : List Cond := .code yX11_bytes cX11_bytes 4 (some .long) :: (wq_X11_bytes_o ++ (wsX110 ++ ((wsV RX11 222 RX9 yX9_at wq_X9_at) ++ ((wsV RX11 76 RX11 yX11_refuse wq_X11_refuse) ++ ([])))))
set_option maxRecDepth 20000 in
theorem gt_wq_X11_bytes : GoodIn lw_tbl wq_X11_bytes := goodIn_ca (goodIn_p (.code yX11_bytes cX11_bytes 4 (some .long) :: wq_X11_bytes_o) [1276] (by decide +kernel) (by decide +kernel)) (goodIn_app gt_wsX110 (goodIn_app (goodIn_app (goodIn_of _ (by decide +kernel)) gt_wq_X9_at) (goodIn_app (goodIn_app (goodIn_of _ (by decide +kernel)) gt_wq_X11_refuse) (fun _ h => absurd h List.not_mem_nil))))
set_option maxRecDepth 20000 in
theorem wq_X11_bytes_g1 : GoodIn wq_X11_bytes (wsV RX11 222 RX9 yX9_at wq_X9_at) := goodIn_sub (fun w h => List.mem_cons_of_mem _ (List.mem_append_right _ (List.mem_append_right _ (List.mem_append_left _ h)))) (by decide +kernel)
set_option maxRecDepth 20000 in
theorem wq_X11_bytes_g2 : GoodIn wq_X11_bytes (wsV RX11 76 RX11 yX11_refuse wq_X11_refuse) := goodIn_sub (fun w h => List.mem_cons_of_mem _ (List.mem_append_right _ (List.mem_append_right _ (List.mem_append_right _ (List.mem_append_left _ h))))) (by decide +kernel)
set_option maxHeartbeats 4000000 in
set_option maxRecDepth 100000 in
theorem k_X11_bytes (l : Launch) (dC : Nat → ClassId) (dI : Nat → Nat → Nat) (sz : Nat) (h0 : Nat) (f0 : Value) (f1 : Value) (f2 : Value) (f3 : Value) (f5 : Value) (f6 : Value) (f7 : Value) (f8 : Value) (f13 : Value) (f14 : Value) (f15 : Value) (hf : Nat) (g0 : Value) (k : Int32) (j : Int32) : Met l yX11_bytes wq_X11_bytes ({ frames := 10, cells := 0, slots := 0, locals := 1200 }) (va_Pc [.ref h0, .int k, .int j] (fun U => U.heap.size = sz ∧ va_P (dC, dI) vwCl [(h0, .inr (11, [f0, f1, f2, f3, .ref hf, f5, f6, f7, f8, .int 0, .int 0, .int 0, .int 0, f13, f14, f15, .int 0, .int 0, .int 0, .int 0])), (hf, .inr (9, [g0, .int 0]))] U.heap ∧ va_K (dC, dI) vwCl [] U ∧ va_D (fun _ => True) [(h0, .inr (11, [f0, f1, f2, f3, .ref hf, f5, f6, f7, f8, .int 0, .int 0, .int 0, .int 0, f13, f14, f15, .int 0, .int 0, .int 0, .int 0])), (hf, .inr (9, [g0, .int 0]))])) (va_Ql (fun (r : Int64) (_ : Unit) => r = -1) (fun (_ : Unit) (_ : State) => True) (va_A [(h0, .inr (11, [f0, f1, f2, f3, .ref hf, f5, f6, f7, f8, .int 0, .int 0, .int 0, .int 0, f13, f14, f15, .int 0, .int 0, .int 0, .int 0])), (hf, .inr (9, [g0, .int 0]))] sz)) 0 0 (va_A [(h0, .inr (11, [f0, f1, f2, f3, .ref hf, f5, f6, f7, f8, .int 0, .int 0, .int 0, .int 0, f13, f14, f15, .int 0, .int 0, .int 0, .int 0])), (hf, .inr (9, [g0, .int 0]))] sz) := by
  refine Met.ofW (cc := cX11_bytes) (maxL := 4) (ret := (some .long)) (by decide +kernel) rfl ?_
  intro p e s m args below meth c s₁ B hml hv
  obtain ⟨rfl, hsz, hP, hK, hD0⟩ := hv
  have hx := B.exec
  have hb := B.bytes
  have hr := B.returns
  have hts := atoms_spec (ws := wq_X11_bytes) B.pre
  have hown : s.vm.findClass RX11 = some m.cls := findClass_of_methodNamed B.named
  have hlocks := B.notSynchronized
  subst hsz
  have hD := hD0.self (sz := s.heap.size)
  generalize hAe : va_A [(h0, .inr (11, [f0, f1, f2, f3, .ref hf, f5, f6, f7, f8, .int 0, .int 0, .int 0, .int 0, f13, f14, f15, .int 0, .int 0, .int 0, .int 0])), (hf, .inr (9, [g0, .int 0]))] s.heap.size = A at hD ⊢
  have hA : ∀ q : Nat, s.heap.size ≤ q → A q := fun q h => by rw [← hAe]; exact Or.inr h
  have hS : va_S A s.heap s.heap [] := va_S.rf
  have hP : va_P (dC, dI) vwCl [(h0, .inr (11, [f0, f1, f2, f3, .ref hf, f5, f6, f7, f8, .int 0, .int 0, .int 0, .int 0, f13, f14, f15, .int 0, .int 0, .int 0, .int 0])), (hf, .inr (9, [g0, .int 0]))] s.heap := hP
  have hl := lv_entry ([.ref h0, .int k, .int j]) (n := 4) (Nat.le_of_ble_eq_true rfl)
  rw [lg_entry_eq]
  generalize (lg_sl ([.ref h0, .int k, .int j]) ++ List.replicate (4 - (lg_sl ([.ref h0, .int k, .int j])).length) Slot.unset).toArray = ls at hl ⊢
  have hl : lv_has ls 4 [(0, .ref h0), (1, .int k), (2, .int j)] := hl
  refine lv_aload_n hx hb dX11_bytes_0 rfl (lv_at hl 0 rfl) ?_
  refine va_get (D := (dC, dI)) (ci := 11) (v := .ref hf) (C := RX11) (T := TX11) (N := 20) hx hb hts (fun w h => List.mem_cons_of_mem _ (List.mem_append_right _ (List.mem_append_left _ h))) hown hK hP 0 rfl rfl 4 (by decide +kernel) (hts (.fieldLink RX11 38 "SixNet" "flight" "LSixNet$Row;") (List.mem_cons_of_mem _ (List.mem_append_left _ (List.mem_of_getElem? (i := 0) rfl)))) (fun _ h9 => h9) rfl dX11_bytes_1 ?_
  refine lv_iload_n hx hb dX11_bytes_4 rfl (lv_at hl 1 rfl) ?_
  have hPc := hP.sub (ws' := [(hf, .inr (9, [g0, .int 0]))]) [1] rfl
  have hDc := hD.sub (ws' := [(hf, .inr (9, [g0, .int 0]))]) [1] (by decide +kernel) rfl
  have hKc := hK.sub (tys' := []) [] rfl
  have hFc := va_free (wc := [(hf, .inr (9, [g0, .int 0]))]) hD hS hA [1] rfl
  have hr_2c : 0 + 0 ≤ 0 := by decide +kernel
  have hr_2s : 0 + 0 ≤ 0 := by decide +kernel
  refine va_callq (va_runV (As := [.int k]) (rest := []) ⟨hx, hb, hml, hown, hts⟩ (k_X9_at l dC dI s.heap.size hf g0 k) (cwV 1 hts wq_X11_bytes_g1 rfl rfl rfl (by decide +kernel) ⟨Nat.le_of_ble_eq_true rfl, Nat.le_of_ble_eq_true rfl⟩) ⟨fun a U g mk q => by obtain ⟨q0, q1, qP, qK, qD⟩ := q; exact ⟨q0, q1, qP, va_K.moved (u := U) (U := U.calling g mk a) (Vm.Alike.refl U.vm) qK, qD⟩, va_recv hKc hPc (ci := 9) (q0 := 0) rfl rfl, fun U hU hW => ⟨rfl, by rw [hU], by rw [hU]; exact hPc, va_K.moved hW.alike hKc, hDc.weaken (fun _ _ _ _ => trivial)⟩⟩ rfl rfl hl.1 rfl (lv_room (Nat.le_of_ble_eq_true rfl)) dX11_bytes_5 ⟨hr_2c, hr_2s⟩) hS (fun q _ h => hFc q h) hFc (fun r_1 u t H1 locs ht hvm hw hB hz1 hk1 hS => ?_)
  obtain ⟨hP1, hK1, hD1⟩ := hB
  rw [ht] at hP1
  obtain ⟨hP, hD⟩ := va_join (wr := [(h0, .inr (11, [f0, f1, f2, f3, .ref hf, f5, f6, f7, f8, .int 0, .int 0, .int 0, .int 0, f13, f14, f15, .int 0, .int 0, .int 0, .int 0]))]) (w1 := [(hf, .inr (9, [g0, .int 0]))]) hP hD [1] [0] rfl rfl (by decide +kernel) (by decide +kernel) hk1 hFc hP1 hD1
  generalize H1 = H at hP hS ⊢
  have hP : va_P (dC, dI) vwCl [(h0, .inr (11, [f0, f1, f2, f3, .ref hf, f5, f6, f7, f8, .int 0, .int 0, .int 0, .int 0, f13, f14, f15, .int 0, .int 0, .int 0, .int 0])), (hf, .inr (9, [g0, .int 0]))] H := hP
  have hD : va_D A [(h0, .inr (11, [f0, f1, f2, f3, .ref hf, f5, f6, f7, f8, .int 0, .int 0, .int 0, .int 0, f13, f14, f15, .int 0, .int 0, .int 0, .int 0])), (hf, .inr (9, [g0, .int 0]))] := hD
  have hw : r_1 = none := hw
  subst hw
  refine W.eq (g2 := F0 m 8 ls [.null]) rfl ?_
  refine lv_astore_nN (lv' := [(3, .null), (0, .ref h0), (1, .int k), (2, .int j)]) hx hb dX11_bytes_8 rfl hl (by decide +kernel) rfl (fun ls hl => ?_)
  refine lv_aload_nN hx hb dX11_bytes_9 rfl (lv_at hl 0 rfl) ?_
  refine lv_ifnullN (tgt := 25) hx hb dX11_bytes_10 (by decide +kernel) ?_
  refine lv_aload_n hx hb dX11_bytes_25 rfl (lv_at hl 1 rfl) ?_
  refine lv_iconst (v := 2) hx hb dX11_bytes_26 (by decide +kernel) ?_
  have hPc := hP.sub (ws' := [(h0, .inr (11, [f0, f1, f2, f3, .ref hf, f5, f6, f7, f8, .int 0, .int 0, .int 0, .int 0, f13, f14, f15, .int 0, .int 0, .int 0, .int 0]))]) [0] rfl
  have hDc := hD.sub (ws' := [(h0, .inr (11, [f0, f1, f2, f3, .ref hf, f5, f6, f7, f8, .int 0, .int 0, .int 0, .int 0, f13, f14, f15, .int 0, .int 0, .int 0, .int 0]))]) [0] (by decide +kernel) rfl
  have hKc := hK.sub (tys' := []) [] rfl
  have hFc := va_free (wc := [(h0, .inr (11, [f0, f1, f2, f3, .ref hf, f5, f6, f7, f8, .int 0, .int 0, .int 0, .int 0, f13, f14, f15, .int 0, .int 0, .int 0, .int 0]))]) hD hS hA [0] rfl
  have hr_4c : 0 + 0 ≤ 0 := by decide +kernel
  have hr_4s : 0 + 0 ≤ 0 := by decide +kernel
  refine va_calli (va_runV (As := [.int 2]) (rest := []) ⟨hx, hb, hml, hown, hts⟩ (k_X11_refuse l dC dI H.size h0 f0 f1 f2 f3 (.ref hf) f5 f6 f7 f8 (.int 0) (.int 0) (.int 0) (.int 0) f13 f14 f15 (.int 0) (.int 0) (.int 0) (.int 0) 2) (cwV 1 hts wq_X11_bytes_g2 rfl rfl rfl (by decide +kernel) ⟨Nat.le_of_ble_eq_true rfl, Nat.le_of_ble_eq_true rfl⟩) ⟨fun a U g mk q => by obtain ⟨q0, q1, qP, qK, qD⟩ := q; exact ⟨q0, q1, qP, va_K.moved (u := U) (U := U.calling g mk a) (Vm.Alike.refl U.vm) qK, qD⟩, va_recv hKc hPc (ci := 11) (q0 := 0) rfl rfl, fun U hU hW => ⟨rfl, by rw [hU], by rw [hU]; exact hPc, va_K.moved hW.alike hKc, hDc.weaken (fun _ _ _ _ => trivial)⟩⟩ rfl rfl hl.1 rfl (lv_room (Nat.le_of_ble_eq_true rfl)) dX11_bytes_27 ⟨hr_4c, hr_4s⟩) hS (fun q _ h => hFc q h) hFc (fun r_3 u t H1 locs ht hvm hw hB hz1 hk1 hS => ?_)
  obtain ⟨hP1, hK1, hD1⟩ := hB
  rw [ht] at hP1
  obtain ⟨hP, hD⟩ := va_join (wr := [(hf, .inr (9, [g0, .int 0]))]) (w1 := [(h0, .inr (11, [f0, f1, f2, f3, .ref hf, f5, f6, f7, f8, .int 0, .int 0, .int 0, .int 0, f13, f14, f15, .int 0, .int 0, .int 0, .int 2]))]) hP hD [0] [1] rfl rfl (by decide +kernel) (by decide +kernel) hk1 hFc hP1 hD1
  generalize H1 = H at hP hS ⊢
  have hP : va_P (dC, dI) vwCl [(hf, .inr (9, [g0, .int 0])), (h0, .inr (11, [f0, f1, f2, f3, .ref hf, f5, f6, f7, f8, .int 0, .int 0, .int 0, .int 0, f13, f14, f15, .int 0, .int 0, .int 0, .int 2]))] H := hP
  have hD : va_D A [(hf, .inr (9, [g0, .int 0])), (h0, .inr (11, [f0, f1, f2, f3, .ref hf, f5, f6, f7, f8, .int 0, .int 0, .int 0, .int 0, f13, f14, f15, .int 0, .int 0, .int 0, .int 2]))] := hD
  have hw : r_3 = -1 := hw
  subst hw
  refine lv_i2l (v := (-1)) hx hb dX11_bytes_30 (by decide +kernel) ?_
  exact W.lret (v := (-1)) hx hb hr (fun t ht hW => ⟨⟨(-1), (), rfl, (by decide), trivial⟩, hS.F ht⟩) hS.2.2 dX11_bytes_31
def wq_X11_face_o : List Cond := []
def wq_X11_face : List Cond := .code yX11_face cX11_face 4 (some .int) :: (wq_X11_face_o ++ ((wsV RX11 273 RX11 yX11_faceAt wq_X11_faceAt) ++ ((wsV RX11 76 RX11 yX11_refuse wq_X11_refuse) ++ ([]))))
set_option maxRecDepth 20000 in
theorem gt_wq_X11_face : GoodIn lw_tbl wq_X11_face := goodIn_ca (goodIn_p (.code yX11_face cX11_face 4 (some .int) :: wq_X11_face_o) [1280] (by decide +kernel) (by decide +kernel)) (goodIn_app (goodIn_app (goodIn_of _ (by decide +kernel)) gt_wq_X11_faceAt) (goodIn_app (goodIn_app (goodIn_of _ (by decide +kernel)) gt_wq_X11_refuse) (fun _ h => absurd h List.not_mem_nil)))
set_option maxRecDepth 20000 in
theorem wq_X11_face_g0 : GoodIn wq_X11_face (wsV RX11 273 RX11 yX11_faceAt wq_X11_faceAt) := goodIn_sub (fun w h => List.mem_cons_of_mem _ (List.mem_append_right _ (List.mem_append_left _ h))) (by decide +kernel)
set_option maxRecDepth 20000 in
theorem wq_X11_face_g1 : GoodIn wq_X11_face (wsV RX11 76 RX11 yX11_refuse wq_X11_refuse) := goodIn_sub (fun w h => List.mem_cons_of_mem _ (List.mem_append_right _ (List.mem_append_right _ (List.mem_append_left _ h)))) (by decide +kernel)
set_option maxHeartbeats 4000000 in
set_option maxRecDepth 100000 in
theorem k_X11_face (l : Launch) (dC : Nat → ClassId) (dI : Nat → Nat → Nat) (sz : Nat) (h0 : Nat) (f0 : Value) (f1 : Value) (f2 : Value) (f3 : Value) (f4 : Value) (f5 : Value) (f6 : Value) (f7 : Value) (f8 : Value) (f13 : Value) (f14 : Value) (f15 : Value) (k : Int32) (j : Int32) : Met l yX11_face wq_X11_face ({ frames := 10, cells := 0, slots := 0, locals := 1200 }) (va_Pc [.ref h0, .int k, .int j] (fun U => U.heap.size = sz ∧ va_P (dC, dI) vwCl [(h0, .inr (11, [f0, f1, f2, f3, f4, f5, f6, f7, f8, .int 0, .int 0, .int 0, .int 0, f13, f14, f15, .int 0, .int 0, .int 0, .int 0]))] U.heap ∧ va_K (dC, dI) vwCl [] U ∧ va_D (fun _ => True) [(h0, .inr (11, [f0, f1, f2, f3, f4, f5, f6, f7, f8, .int 0, .int 0, .int 0, .int 0, f13, f14, f15, .int 0, .int 0, .int 0, .int 0]))])) (va_Qi (fun (r : Int32) (_ : Unit) => r = -1) (fun (_ : Unit) (_ : State) => True) (va_A [(h0, .inr (11, [f0, f1, f2, f3, f4, f5, f6, f7, f8, .int 0, .int 0, .int 0, .int 0, f13, f14, f15, .int 0, .int 0, .int 0, .int 0]))] sz)) 0 0 (va_A [(h0, .inr (11, [f0, f1, f2, f3, f4, f5, f6, f7, f8, .int 0, .int 0, .int 0, .int 0, f13, f14, f15, .int 0, .int 0, .int 0, .int 0]))] sz) := by
  refine Met.ofW (cc := cX11_face) (maxL := 4) (ret := (some .int)) (by decide +kernel) rfl ?_
  intro p e s m args below meth c s₁ B hml hv
  obtain ⟨rfl, hsz, hP, hK, hD0⟩ := hv
  have hx := B.exec
  have hb := B.bytes
  have hr := B.returns
  have hts := atoms_spec (ws := wq_X11_face) B.pre
  have hown : s.vm.findClass RX11 = some m.cls := findClass_of_methodNamed B.named
  have hlocks := B.notSynchronized
  subst hsz
  have hD := hD0.self (sz := s.heap.size)
  generalize hAe : va_A [(h0, .inr (11, [f0, f1, f2, f3, f4, f5, f6, f7, f8, .int 0, .int 0, .int 0, .int 0, f13, f14, f15, .int 0, .int 0, .int 0, .int 0]))] s.heap.size = A at hD ⊢
  have hA : ∀ q : Nat, s.heap.size ≤ q → A q := fun q h => by rw [← hAe]; exact Or.inr h
  have hS : va_S A s.heap s.heap [] := va_S.rf
  have hP : va_P (dC, dI) vwCl [(h0, .inr (11, [f0, f1, f2, f3, f4, f5, f6, f7, f8, .int 0, .int 0, .int 0, .int 0, f13, f14, f15, .int 0, .int 0, .int 0, .int 0]))] s.heap := hP
  have hl := lv_entry ([.ref h0, .int k, .int j]) (n := 4) (Nat.le_of_ble_eq_true rfl)
  rw [lg_entry_eq]
  generalize (lg_sl ([.ref h0, .int k, .int j]) ++ List.replicate (4 - (lg_sl ([.ref h0, .int k, .int j])).length) Slot.unset).toArray = ls at hl ⊢
  have hl : lv_has ls 4 [(0, .ref h0), (1, .int k), (2, .int j)] := hl
  refine lv_aload_n hx hb dX11_face_0 rfl (lv_at hl 0 rfl) ?_
  refine lv_iload_n hx hb dX11_face_1 rfl (lv_at hl 1 rfl) ?_
  have hPc := hP.sub (ws' := [(h0, .inr (11, [f0, f1, f2, f3, f4, f5, f6, f7, f8, .int 0, .int 0, .int 0, .int 0, f13, f14, f15, .int 0, .int 0, .int 0, .int 0]))]) [0] rfl
  have hDc := hD.sub (ws' := [(h0, .inr (11, [f0, f1, f2, f3, f4, f5, f6, f7, f8, .int 0, .int 0, .int 0, .int 0, f13, f14, f15, .int 0, .int 0, .int 0, .int 0]))]) [0] (by decide +kernel) rfl
  have hKc := hK.sub (tys' := []) [] rfl
  have hFc := va_free (wc := [(h0, .inr (11, [f0, f1, f2, f3, f4, f5, f6, f7, f8, .int 0, .int 0, .int 0, .int 0, f13, f14, f15, .int 0, .int 0, .int 0, .int 0]))]) hD hS hA [0] rfl
  have hr_2c : 0 + 0 ≤ 0 := by decide +kernel
  have hr_2s : 0 + 0 ≤ 0 := by decide +kernel
  refine va_callq (va_runV (As := [.int k]) (rest := []) ⟨hx, hb, hml, hown, hts⟩ (k_X11_faceAt l dC dI s.heap.size h0 f0 f1 f2 f3 f4 f5 f6 f7 f8 (.int 0) (.int 0) (.int 0) f13 f14 f15 (.int 0) (.int 0) (.int 0) (.int 0) k) (cwV 1 hts wq_X11_face_g0 rfl rfl rfl (by decide +kernel) ⟨Nat.le_of_ble_eq_true rfl, Nat.le_of_ble_eq_true rfl⟩) ⟨fun a U g mk q => by obtain ⟨q0, q1, qP, qK, qD⟩ := q; exact ⟨q0, q1, qP, va_K.moved (u := U) (U := U.calling g mk a) (Vm.Alike.refl U.vm) qK, qD⟩, va_recv hKc hPc (ci := 11) (q0 := 0) rfl rfl, fun U hU hW => ⟨rfl, by rw [hU], by rw [hU]; exact hPc, va_K.moved hW.alike hKc, hDc.weaken (fun _ _ _ _ => trivial)⟩⟩ rfl rfl hl.1 rfl (lv_room (Nat.le_of_ble_eq_true rfl)) dX11_face_2 ⟨hr_2c, hr_2s⟩) hS (fun q _ h => hFc q h) hFc (fun r_1 u t H1 locs ht hvm hw hB hz1 hk1 hS => ?_)
  obtain ⟨hP1, hK1, hD1⟩ := hB
  rw [ht] at hP1
  obtain ⟨hP, hD⟩ := va_join (wr := []) (w1 := [(h0, .inr (11, [f0, f1, f2, f3, f4, f5, f6, f7, f8, .int 0, .int 0, .int 0, .int 0, f13, f14, f15, .int 0, .int 0, .int 0, .int 0]))]) hP hD [0] [] rfl rfl (by decide +kernel) (by decide +kernel) hk1 hFc hP1 hD1
  generalize H1 = H at hP hS ⊢
  have hP : va_P (dC, dI) vwCl [(h0, .inr (11, [f0, f1, f2, f3, f4, f5, f6, f7, f8, .int 0, .int 0, .int 0, .int 0, f13, f14, f15, .int 0, .int 0, .int 0, .int 0]))] H := hP
  have hD : va_D A [(h0, .inr (11, [f0, f1, f2, f3, f4, f5, f6, f7, f8, .int 0, .int 0, .int 0, .int 0, f13, f14, f15, .int 0, .int 0, .int 0, .int 0]))] := hD
  have hw : r_1 = none := hw
  subst hw
  refine W.eq (g2 := F0 m 5 ls [.null]) rfl ?_
  refine lv_astore_nN (lv' := [(3, .null), (0, .ref h0), (1, .int k), (2, .int j)]) hx hb dX11_face_5 rfl hl (by decide +kernel) rfl (fun ls hl => ?_)
  refine lv_aload_nN hx hb dX11_face_6 rfl (lv_at hl 0 rfl) ?_
  refine lv_ifnonnullN hx hb dX11_face_7 ?_
  refine lv_aload_n hx hb dX11_face_10 rfl (lv_at hl 1 rfl) ?_
  refine lv_iconst (v := 1) hx hb dX11_face_11 (by decide +kernel) ?_
  have hPc := hP.sub (ws' := [(h0, .inr (11, [f0, f1, f2, f3, f4, f5, f6, f7, f8, .int 0, .int 0, .int 0, .int 0, f13, f14, f15, .int 0, .int 0, .int 0, .int 0]))]) [0] rfl
  have hDc := hD.sub (ws' := [(h0, .inr (11, [f0, f1, f2, f3, f4, f5, f6, f7, f8, .int 0, .int 0, .int 0, .int 0, f13, f14, f15, .int 0, .int 0, .int 0, .int 0]))]) [0] (by decide +kernel) rfl
  have hKc := hK.sub (tys' := []) [] rfl
  have hFc := va_free (wc := [(h0, .inr (11, [f0, f1, f2, f3, f4, f5, f6, f7, f8, .int 0, .int 0, .int 0, .int 0, f13, f14, f15, .int 0, .int 0, .int 0, .int 0]))]) hD hS hA [0] rfl
  have hr_4c : 0 + 0 ≤ 0 := by decide +kernel
  have hr_4s : 0 + 0 ≤ 0 := by decide +kernel
  refine va_calli (va_runV (As := [.int 1]) (rest := []) ⟨hx, hb, hml, hown, hts⟩ (k_X11_refuse l dC dI H.size h0 f0 f1 f2 f3 f4 f5 f6 f7 f8 (.int 0) (.int 0) (.int 0) (.int 0) f13 f14 f15 (.int 0) (.int 0) (.int 0) (.int 0) 1) (cwV 1 hts wq_X11_face_g1 rfl rfl rfl (by decide +kernel) ⟨Nat.le_of_ble_eq_true rfl, Nat.le_of_ble_eq_true rfl⟩) ⟨fun a U g mk q => by obtain ⟨q0, q1, qP, qK, qD⟩ := q; exact ⟨q0, q1, qP, va_K.moved (u := U) (U := U.calling g mk a) (Vm.Alike.refl U.vm) qK, qD⟩, va_recv hKc hPc (ci := 11) (q0 := 0) rfl rfl, fun U hU hW => ⟨rfl, by rw [hU], by rw [hU]; exact hPc, va_K.moved hW.alike hKc, hDc.weaken (fun _ _ _ _ => trivial)⟩⟩ rfl rfl hl.1 rfl (lv_room (Nat.le_of_ble_eq_true rfl)) dX11_face_12 ⟨hr_4c, hr_4s⟩) hS (fun q _ h => hFc q h) hFc (fun r_3 u t H1 locs ht hvm hw hB hz1 hk1 hS => ?_)
  obtain ⟨hP1, hK1, hD1⟩ := hB
  rw [ht] at hP1
  obtain ⟨hP, hD⟩ := va_join (wr := []) (w1 := [(h0, .inr (11, [f0, f1, f2, f3, f4, f5, f6, f7, f8, .int 0, .int 0, .int 0, .int 0, f13, f14, f15, .int 0, .int 0, .int 0, .int 1]))]) hP hD [0] [] rfl rfl (by decide +kernel) (by decide +kernel) hk1 hFc hP1 hD1
  generalize H1 = H at hP hS ⊢
  have hP : va_P (dC, dI) vwCl [(h0, .inr (11, [f0, f1, f2, f3, f4, f5, f6, f7, f8, .int 0, .int 0, .int 0, .int 0, f13, f14, f15, .int 0, .int 0, .int 0, .int 1]))] H := hP
  have hD : va_D A [(h0, .inr (11, [f0, f1, f2, f3, f4, f5, f6, f7, f8, .int 0, .int 0, .int 0, .int 0, f13, f14, f15, .int 0, .int 0, .int 0, .int 1]))] := hD
  have hw : r_3 = -1 := hw
  subst hw
  exact W.iret (v := (-1)) hx hb hr (fun t ht hW => ⟨⟨(-1), (), rfl, rfl, trivial⟩, hS.F ht⟩) hS.2.2 dX11_face_15
def wq_X11_id_o : List Cond := []
def wq_X11_id : List Cond := .code yX11_id cX11_id 4 (some .long) :: (wq_X11_id_o ++ ((wsV RX11 273 RX11 yX11_faceAt wq_X11_faceAt) ++ ((wsV RX11 76 RX11 yX11_refuse wq_X11_refuse) ++ ([]))))
set_option maxRecDepth 20000 in
theorem gt_wq_X11_id : GoodIn lw_tbl wq_X11_id := goodIn_ca (goodIn_p (.code yX11_id cX11_id 4 (some .long) :: wq_X11_id_o) [1288] (by decide +kernel) (by decide +kernel)) (goodIn_app (goodIn_app (goodIn_of _ (by decide +kernel)) gt_wq_X11_faceAt) (goodIn_app (goodIn_app (goodIn_of _ (by decide +kernel)) gt_wq_X11_refuse) (fun _ h => absurd h List.not_mem_nil)))
set_option maxRecDepth 20000 in
theorem wq_X11_id_g0 : GoodIn wq_X11_id (wsV RX11 273 RX11 yX11_faceAt wq_X11_faceAt) := goodIn_sub (fun w h => List.mem_cons_of_mem _ (List.mem_append_right _ (List.mem_append_left _ h))) (by decide +kernel)
set_option maxRecDepth 20000 in
theorem wq_X11_id_g1 : GoodIn wq_X11_id (wsV RX11 76 RX11 yX11_refuse wq_X11_refuse) := goodIn_sub (fun w h => List.mem_cons_of_mem _ (List.mem_append_right _ (List.mem_append_right _ (List.mem_append_left _ h)))) (by decide +kernel)
set_option maxHeartbeats 4000000 in
set_option maxRecDepth 100000 in
theorem k_X11_id (l : Launch) (dC : Nat → ClassId) (dI : Nat → Nat → Nat) (sz : Nat) (h0 : Nat) (f0 : Value) (f1 : Value) (f2 : Value) (f3 : Value) (f4 : Value) (f5 : Value) (f6 : Value) (f7 : Value) (f8 : Value) (f13 : Value) (f14 : Value) (f15 : Value) (k : Int32) (j : Int32) : Met l yX11_id wq_X11_id ({ frames := 10, cells := 0, slots := 0, locals := 1200 }) (va_Pc [.ref h0, .int k, .int j] (fun U => U.heap.size = sz ∧ va_P (dC, dI) vwCl [(h0, .inr (11, [f0, f1, f2, f3, f4, f5, f6, f7, f8, .int 0, .int 0, .int 0, .int 0, f13, f14, f15, .int 0, .int 0, .int 0, .int 0]))] U.heap ∧ va_K (dC, dI) vwCl [] U ∧ va_D (fun _ => True) [(h0, .inr (11, [f0, f1, f2, f3, f4, f5, f6, f7, f8, .int 0, .int 0, .int 0, .int 0, f13, f14, f15, .int 0, .int 0, .int 0, .int 0]))])) (va_Ql (fun (r : Int64) (_ : Unit) => r = -1) (fun (_ : Unit) (_ : State) => True) (va_A [(h0, .inr (11, [f0, f1, f2, f3, f4, f5, f6, f7, f8, .int 0, .int 0, .int 0, .int 0, f13, f14, f15, .int 0, .int 0, .int 0, .int 0]))] sz)) 0 0 (va_A [(h0, .inr (11, [f0, f1, f2, f3, f4, f5, f6, f7, f8, .int 0, .int 0, .int 0, .int 0, f13, f14, f15, .int 0, .int 0, .int 0, .int 0]))] sz) := by
  refine Met.ofW (cc := cX11_id) (maxL := 4) (ret := (some .long)) (by decide +kernel) rfl ?_
  intro p e s m args below meth c s₁ B hml hv
  obtain ⟨rfl, hsz, hP, hK, hD0⟩ := hv
  have hx := B.exec
  have hb := B.bytes
  have hr := B.returns
  have hts := atoms_spec (ws := wq_X11_id) B.pre
  have hown : s.vm.findClass RX11 = some m.cls := findClass_of_methodNamed B.named
  have hlocks := B.notSynchronized
  subst hsz
  have hD := hD0.self (sz := s.heap.size)
  generalize hAe : va_A [(h0, .inr (11, [f0, f1, f2, f3, f4, f5, f6, f7, f8, .int 0, .int 0, .int 0, .int 0, f13, f14, f15, .int 0, .int 0, .int 0, .int 0]))] s.heap.size = A at hD ⊢
  have hA : ∀ q : Nat, s.heap.size ≤ q → A q := fun q h => by rw [← hAe]; exact Or.inr h
  have hS : va_S A s.heap s.heap [] := va_S.rf
  have hP : va_P (dC, dI) vwCl [(h0, .inr (11, [f0, f1, f2, f3, f4, f5, f6, f7, f8, .int 0, .int 0, .int 0, .int 0, f13, f14, f15, .int 0, .int 0, .int 0, .int 0]))] s.heap := hP
  have hl := lv_entry ([.ref h0, .int k, .int j]) (n := 4) (Nat.le_of_ble_eq_true rfl)
  rw [lg_entry_eq]
  generalize (lg_sl ([.ref h0, .int k, .int j]) ++ List.replicate (4 - (lg_sl ([.ref h0, .int k, .int j])).length) Slot.unset).toArray = ls at hl ⊢
  have hl : lv_has ls 4 [(0, .ref h0), (1, .int k), (2, .int j)] := hl
  refine lv_aload_n hx hb dX11_id_0 rfl (lv_at hl 0 rfl) ?_
  refine lv_iload_n hx hb dX11_id_1 rfl (lv_at hl 1 rfl) ?_
  have hPc := hP.sub (ws' := [(h0, .inr (11, [f0, f1, f2, f3, f4, f5, f6, f7, f8, .int 0, .int 0, .int 0, .int 0, f13, f14, f15, .int 0, .int 0, .int 0, .int 0]))]) [0] rfl
  have hDc := hD.sub (ws' := [(h0, .inr (11, [f0, f1, f2, f3, f4, f5, f6, f7, f8, .int 0, .int 0, .int 0, .int 0, f13, f14, f15, .int 0, .int 0, .int 0, .int 0]))]) [0] (by decide +kernel) rfl
  have hKc := hK.sub (tys' := []) [] rfl
  have hFc := va_free (wc := [(h0, .inr (11, [f0, f1, f2, f3, f4, f5, f6, f7, f8, .int 0, .int 0, .int 0, .int 0, f13, f14, f15, .int 0, .int 0, .int 0, .int 0]))]) hD hS hA [0] rfl
  have hr_2c : 0 + 0 ≤ 0 := by decide +kernel
  have hr_2s : 0 + 0 ≤ 0 := by decide +kernel
  refine va_callq (va_runV (As := [.int k]) (rest := []) ⟨hx, hb, hml, hown, hts⟩ (k_X11_faceAt l dC dI s.heap.size h0 f0 f1 f2 f3 f4 f5 f6 f7 f8 (.int 0) (.int 0) (.int 0) f13 f14 f15 (.int 0) (.int 0) (.int 0) (.int 0) k) (cwV 1 hts wq_X11_id_g0 rfl rfl rfl (by decide +kernel) ⟨Nat.le_of_ble_eq_true rfl, Nat.le_of_ble_eq_true rfl⟩) ⟨fun a U g mk q => by obtain ⟨q0, q1, qP, qK, qD⟩ := q; exact ⟨q0, q1, qP, va_K.moved (u := U) (U := U.calling g mk a) (Vm.Alike.refl U.vm) qK, qD⟩, va_recv hKc hPc (ci := 11) (q0 := 0) rfl rfl, fun U hU hW => ⟨rfl, by rw [hU], by rw [hU]; exact hPc, va_K.moved hW.alike hKc, hDc.weaken (fun _ _ _ _ => trivial)⟩⟩ rfl rfl hl.1 rfl (lv_room (Nat.le_of_ble_eq_true rfl)) dX11_id_2 ⟨hr_2c, hr_2s⟩) hS (fun q _ h => hFc q h) hFc (fun r_1 u t H1 locs ht hvm hw hB hz1 hk1 hS => ?_)
  obtain ⟨hP1, hK1, hD1⟩ := hB
  rw [ht] at hP1
  obtain ⟨hP, hD⟩ := va_join (wr := []) (w1 := [(h0, .inr (11, [f0, f1, f2, f3, f4, f5, f6, f7, f8, .int 0, .int 0, .int 0, .int 0, f13, f14, f15, .int 0, .int 0, .int 0, .int 0]))]) hP hD [0] [] rfl rfl (by decide +kernel) (by decide +kernel) hk1 hFc hP1 hD1
  generalize H1 = H at hP hS ⊢
  have hP : va_P (dC, dI) vwCl [(h0, .inr (11, [f0, f1, f2, f3, f4, f5, f6, f7, f8, .int 0, .int 0, .int 0, .int 0, f13, f14, f15, .int 0, .int 0, .int 0, .int 0]))] H := hP
  have hD : va_D A [(h0, .inr (11, [f0, f1, f2, f3, f4, f5, f6, f7, f8, .int 0, .int 0, .int 0, .int 0, f13, f14, f15, .int 0, .int 0, .int 0, .int 0]))] := hD
  have hw : r_1 = none := hw
  subst hw
  refine W.eq (g2 := F0 m 5 ls [.null]) rfl ?_
  refine lv_astore_nN (lv' := [(3, .null), (0, .ref h0), (1, .int k), (2, .int j)]) hx hb dX11_id_5 rfl hl (by decide +kernel) rfl (fun ls hl => ?_)
  refine lv_aload_nN hx hb dX11_id_6 rfl (lv_at hl 0 rfl) ?_
  refine lv_ifnonnullN hx hb dX11_id_7 ?_
  refine lv_aload_n hx hb dX11_id_10 rfl (lv_at hl 1 rfl) ?_
  refine lv_iconst (v := 1) hx hb dX11_id_11 (by decide +kernel) ?_
  have hPc := hP.sub (ws' := [(h0, .inr (11, [f0, f1, f2, f3, f4, f5, f6, f7, f8, .int 0, .int 0, .int 0, .int 0, f13, f14, f15, .int 0, .int 0, .int 0, .int 0]))]) [0] rfl
  have hDc := hD.sub (ws' := [(h0, .inr (11, [f0, f1, f2, f3, f4, f5, f6, f7, f8, .int 0, .int 0, .int 0, .int 0, f13, f14, f15, .int 0, .int 0, .int 0, .int 0]))]) [0] (by decide +kernel) rfl
  have hKc := hK.sub (tys' := []) [] rfl
  have hFc := va_free (wc := [(h0, .inr (11, [f0, f1, f2, f3, f4, f5, f6, f7, f8, .int 0, .int 0, .int 0, .int 0, f13, f14, f15, .int 0, .int 0, .int 0, .int 0]))]) hD hS hA [0] rfl
  have hr_4c : 0 + 0 ≤ 0 := by decide +kernel
  have hr_4s : 0 + 0 ≤ 0 := by decide +kernel
  refine va_calli (va_runV (As := [.int 1]) (rest := []) ⟨hx, hb, hml, hown, hts⟩ (k_X11_refuse l dC dI H.size h0 f0 f1 f2 f3 f4 f5 f6 f7 f8 (.int 0) (.int 0) (.int 0) (.int 0) f13 f14 f15 (.int 0) (.int 0) (.int 0) (.int 0) 1) (cwV 1 hts wq_X11_id_g1 rfl rfl rfl (by decide +kernel) ⟨Nat.le_of_ble_eq_true rfl, Nat.le_of_ble_eq_true rfl⟩) ⟨fun a U g mk q => by obtain ⟨q0, q1, qP, qK, qD⟩ := q; exact ⟨q0, q1, qP, va_K.moved (u := U) (U := U.calling g mk a) (Vm.Alike.refl U.vm) qK, qD⟩, va_recv hKc hPc (ci := 11) (q0 := 0) rfl rfl, fun U hU hW => ⟨rfl, by rw [hU], by rw [hU]; exact hPc, va_K.moved hW.alike hKc, hDc.weaken (fun _ _ _ _ => trivial)⟩⟩ rfl rfl hl.1 rfl (lv_room (Nat.le_of_ble_eq_true rfl)) dX11_id_12 ⟨hr_4c, hr_4s⟩) hS (fun q _ h => hFc q h) hFc (fun r_3 u t H1 locs ht hvm hw hB hz1 hk1 hS => ?_)
  obtain ⟨hP1, hK1, hD1⟩ := hB
  rw [ht] at hP1
  obtain ⟨hP, hD⟩ := va_join (wr := []) (w1 := [(h0, .inr (11, [f0, f1, f2, f3, f4, f5, f6, f7, f8, .int 0, .int 0, .int 0, .int 0, f13, f14, f15, .int 0, .int 0, .int 0, .int 1]))]) hP hD [0] [] rfl rfl (by decide +kernel) (by decide +kernel) hk1 hFc hP1 hD1
  generalize H1 = H at hP hS ⊢
  have hP : va_P (dC, dI) vwCl [(h0, .inr (11, [f0, f1, f2, f3, f4, f5, f6, f7, f8, .int 0, .int 0, .int 0, .int 0, f13, f14, f15, .int 0, .int 0, .int 0, .int 1]))] H := hP
  have hD : va_D A [(h0, .inr (11, [f0, f1, f2, f3, f4, f5, f6, f7, f8, .int 0, .int 0, .int 0, .int 0, f13, f14, f15, .int 0, .int 0, .int 0, .int 1]))] := hD
  have hw : r_3 = -1 := hw
  subst hw
  refine lv_i2l (v := (-1)) hx hb dX11_id_15 (by decide +kernel) ?_
  exact W.lret (v := (-1)) hx hb hr (fun t ht hW => ⟨⟨(-1), (), rfl, (by decide), trivial⟩, hS.F ht⟩) hS.2.2 dX11_id_16
def wq_X11_entry_o : List Cond := []
def wq_X11_entry : List Cond := .code yX11_entry cX11_entry 6 (some .long) :: (wq_X11_entry_o ++ ((wsV RX11 273 RX11 yX11_faceAt wq_X11_faceAt) ++ ((wsV RX11 76 RX11 yX11_refuse wq_X11_refuse) ++ ([]))))
set_option maxRecDepth 20000 in
theorem gt_wq_X11_entry : GoodIn lw_tbl wq_X11_entry := goodIn_ca (goodIn_p (.code yX11_entry cX11_entry 6 (some .long) :: wq_X11_entry_o) [1292] (by decide +kernel) (by decide +kernel)) (goodIn_app (goodIn_app (goodIn_of _ (by decide +kernel)) gt_wq_X11_faceAt) (goodIn_app (goodIn_app (goodIn_of _ (by decide +kernel)) gt_wq_X11_refuse) (fun _ h => absurd h List.not_mem_nil)))
set_option maxRecDepth 20000 in
theorem wq_X11_entry_g0 : GoodIn wq_X11_entry (wsV RX11 273 RX11 yX11_faceAt wq_X11_faceAt) := goodIn_sub (fun w h => List.mem_cons_of_mem _ (List.mem_append_right _ (List.mem_append_left _ h))) (by decide +kernel)
set_option maxRecDepth 20000 in
theorem wq_X11_entry_g1 : GoodIn wq_X11_entry (wsV RX11 76 RX11 yX11_refuse wq_X11_refuse) := goodIn_sub (fun w h => List.mem_cons_of_mem _ (List.mem_append_right _ (List.mem_append_right _ (List.mem_append_left _ h)))) (by decide +kernel)
set_option maxHeartbeats 4000000 in
set_option maxRecDepth 100000 in
theorem k_X11_entry (l : Launch) (dC : Nat → ClassId) (dI : Nat → Nat → Nat) (sz : Nat) (h0 : Nat) (f0 : Value) (f1 : Value) (f2 : Value) (f3 : Value) (f4 : Value) (f5 : Value) (f6 : Value) (f7 : Value) (f8 : Value) (f13 : Value) (f14 : Value) (f15 : Value) (k : Int32) (j : Int32) (a : Int32) : Met l yX11_entry wq_X11_entry ({ frames := 10, cells := 0, slots := 0, locals := 1200 }) (va_Pc [.ref h0, .int k, .int j, .int a] (fun U => U.heap.size = sz ∧ va_P (dC, dI) vwCl [(h0, .inr (11, [f0, f1, f2, f3, f4, f5, f6, f7, f8, .int 0, .int 0, .int 0, .int 0, f13, f14, f15, .int 0, .int 0, .int 0, .int 0]))] U.heap ∧ va_K (dC, dI) vwCl [] U ∧ va_D (fun _ => True) [(h0, .inr (11, [f0, f1, f2, f3, f4, f5, f6, f7, f8, .int 0, .int 0, .int 0, .int 0, f13, f14, f15, .int 0, .int 0, .int 0, .int 0]))])) (va_Ql (fun (r : Int64) (_ : Unit) => r = -1) (fun (_ : Unit) (_ : State) => True) (va_A [(h0, .inr (11, [f0, f1, f2, f3, f4, f5, f6, f7, f8, .int 0, .int 0, .int 0, .int 0, f13, f14, f15, .int 0, .int 0, .int 0, .int 0]))] sz)) 0 0 (va_A [(h0, .inr (11, [f0, f1, f2, f3, f4, f5, f6, f7, f8, .int 0, .int 0, .int 0, .int 0, f13, f14, f15, .int 0, .int 0, .int 0, .int 0]))] sz) := by
  refine Met.ofW (cc := cX11_entry) (maxL := 6) (ret := (some .long)) (by decide +kernel) rfl ?_
  intro p e s m args below meth c s₁ B hml hv
  obtain ⟨rfl, hsz, hP, hK, hD0⟩ := hv
  have hx := B.exec
  have hb := B.bytes
  have hr := B.returns
  have hts := atoms_spec (ws := wq_X11_entry) B.pre
  have hown : s.vm.findClass RX11 = some m.cls := findClass_of_methodNamed B.named
  have hlocks := B.notSynchronized
  subst hsz
  have hD := hD0.self (sz := s.heap.size)
  generalize hAe : va_A [(h0, .inr (11, [f0, f1, f2, f3, f4, f5, f6, f7, f8, .int 0, .int 0, .int 0, .int 0, f13, f14, f15, .int 0, .int 0, .int 0, .int 0]))] s.heap.size = A at hD ⊢
  have hA : ∀ q : Nat, s.heap.size ≤ q → A q := fun q h => by rw [← hAe]; exact Or.inr h
  have hS : va_S A s.heap s.heap [] := va_S.rf
  have hP : va_P (dC, dI) vwCl [(h0, .inr (11, [f0, f1, f2, f3, f4, f5, f6, f7, f8, .int 0, .int 0, .int 0, .int 0, f13, f14, f15, .int 0, .int 0, .int 0, .int 0]))] s.heap := hP
  have hl := lv_entry ([.ref h0, .int k, .int j, .int a]) (n := 6) (Nat.le_of_ble_eq_true rfl)
  rw [lg_entry_eq]
  generalize (lg_sl ([.ref h0, .int k, .int j, .int a]) ++ List.replicate (6 - (lg_sl ([.ref h0, .int k, .int j, .int a])).length) Slot.unset).toArray = ls at hl ⊢
  have hl : lv_has ls 6 [(0, .ref h0), (1, .int k), (2, .int j), (3, .int a)] := hl
  refine lv_aload_n hx hb dX11_entry_0 rfl (lv_at hl 0 rfl) ?_
  refine lv_iload_n hx hb dX11_entry_1 rfl (lv_at hl 1 rfl) ?_
  have hPc := hP.sub (ws' := [(h0, .inr (11, [f0, f1, f2, f3, f4, f5, f6, f7, f8, .int 0, .int 0, .int 0, .int 0, f13, f14, f15, .int 0, .int 0, .int 0, .int 0]))]) [0] rfl
  have hDc := hD.sub (ws' := [(h0, .inr (11, [f0, f1, f2, f3, f4, f5, f6, f7, f8, .int 0, .int 0, .int 0, .int 0, f13, f14, f15, .int 0, .int 0, .int 0, .int 0]))]) [0] (by decide +kernel) rfl
  have hKc := hK.sub (tys' := []) [] rfl
  have hFc := va_free (wc := [(h0, .inr (11, [f0, f1, f2, f3, f4, f5, f6, f7, f8, .int 0, .int 0, .int 0, .int 0, f13, f14, f15, .int 0, .int 0, .int 0, .int 0]))]) hD hS hA [0] rfl
  have hr_2c : 0 + 0 ≤ 0 := by decide +kernel
  have hr_2s : 0 + 0 ≤ 0 := by decide +kernel
  refine va_callq (va_runV (As := [.int k]) (rest := []) ⟨hx, hb, hml, hown, hts⟩ (k_X11_faceAt l dC dI s.heap.size h0 f0 f1 f2 f3 f4 f5 f6 f7 f8 (.int 0) (.int 0) (.int 0) f13 f14 f15 (.int 0) (.int 0) (.int 0) (.int 0) k) (cwV 1 hts wq_X11_entry_g0 rfl rfl rfl (by decide +kernel) ⟨Nat.le_of_ble_eq_true rfl, Nat.le_of_ble_eq_true rfl⟩) ⟨fun a U g mk q => by obtain ⟨q0, q1, qP, qK, qD⟩ := q; exact ⟨q0, q1, qP, va_K.moved (u := U) (U := U.calling g mk a) (Vm.Alike.refl U.vm) qK, qD⟩, va_recv hKc hPc (ci := 11) (q0 := 0) rfl rfl, fun U hU hW => ⟨rfl, by rw [hU], by rw [hU]; exact hPc, va_K.moved hW.alike hKc, hDc.weaken (fun _ _ _ _ => trivial)⟩⟩ rfl rfl hl.1 rfl (lv_room (Nat.le_of_ble_eq_true rfl)) dX11_entry_2 ⟨hr_2c, hr_2s⟩) hS (fun q _ h => hFc q h) hFc (fun r_1 u t H1 locs ht hvm hw hB hz1 hk1 hS => ?_)
  obtain ⟨hP1, hK1, hD1⟩ := hB
  rw [ht] at hP1
  obtain ⟨hP, hD⟩ := va_join (wr := []) (w1 := [(h0, .inr (11, [f0, f1, f2, f3, f4, f5, f6, f7, f8, .int 0, .int 0, .int 0, .int 0, f13, f14, f15, .int 0, .int 0, .int 0, .int 0]))]) hP hD [0] [] rfl rfl (by decide +kernel) (by decide +kernel) hk1 hFc hP1 hD1
  generalize H1 = H at hP hS ⊢
  have hP : va_P (dC, dI) vwCl [(h0, .inr (11, [f0, f1, f2, f3, f4, f5, f6, f7, f8, .int 0, .int 0, .int 0, .int 0, f13, f14, f15, .int 0, .int 0, .int 0, .int 0]))] H := hP
  have hD : va_D A [(h0, .inr (11, [f0, f1, f2, f3, f4, f5, f6, f7, f8, .int 0, .int 0, .int 0, .int 0, f13, f14, f15, .int 0, .int 0, .int 0, .int 0]))] := hD
  have hw : r_1 = none := hw
  subst hw
  refine W.eq (g2 := F0 m 5 ls [.null]) rfl ?_
  refine lv_astoreN (lv' := [(4, .null), (0, .ref h0), (1, .int k), (2, .int j), (3, .int a)]) hx hb dX11_entry_5 hl (by decide +kernel) rfl (fun ls hl => ?_)
  refine lv_aloadN hx hb dX11_entry_7 (lv_at hl 0 rfl) ?_
  refine lv_ifnonnullN hx hb dX11_entry_9 ?_
  refine lv_aload_n hx hb dX11_entry_12 rfl (lv_at hl 1 rfl) ?_
  refine lv_iconst (v := 1) hx hb dX11_entry_13 (by decide +kernel) ?_
  have hPc := hP.sub (ws' := [(h0, .inr (11, [f0, f1, f2, f3, f4, f5, f6, f7, f8, .int 0, .int 0, .int 0, .int 0, f13, f14, f15, .int 0, .int 0, .int 0, .int 0]))]) [0] rfl
  have hDc := hD.sub (ws' := [(h0, .inr (11, [f0, f1, f2, f3, f4, f5, f6, f7, f8, .int 0, .int 0, .int 0, .int 0, f13, f14, f15, .int 0, .int 0, .int 0, .int 0]))]) [0] (by decide +kernel) rfl
  have hKc := hK.sub (tys' := []) [] rfl
  have hFc := va_free (wc := [(h0, .inr (11, [f0, f1, f2, f3, f4, f5, f6, f7, f8, .int 0, .int 0, .int 0, .int 0, f13, f14, f15, .int 0, .int 0, .int 0, .int 0]))]) hD hS hA [0] rfl
  have hr_4c : 0 + 0 ≤ 0 := by decide +kernel
  have hr_4s : 0 + 0 ≤ 0 := by decide +kernel
  refine va_calli (va_runV (As := [.int 1]) (rest := []) ⟨hx, hb, hml, hown, hts⟩ (k_X11_refuse l dC dI H.size h0 f0 f1 f2 f3 f4 f5 f6 f7 f8 (.int 0) (.int 0) (.int 0) (.int 0) f13 f14 f15 (.int 0) (.int 0) (.int 0) (.int 0) 1) (cwV 1 hts wq_X11_entry_g1 rfl rfl rfl (by decide +kernel) ⟨Nat.le_of_ble_eq_true rfl, Nat.le_of_ble_eq_true rfl⟩) ⟨fun a U g mk q => by obtain ⟨q0, q1, qP, qK, qD⟩ := q; exact ⟨q0, q1, qP, va_K.moved (u := U) (U := U.calling g mk a) (Vm.Alike.refl U.vm) qK, qD⟩, va_recv hKc hPc (ci := 11) (q0 := 0) rfl rfl, fun U hU hW => ⟨rfl, by rw [hU], by rw [hU]; exact hPc, va_K.moved hW.alike hKc, hDc.weaken (fun _ _ _ _ => trivial)⟩⟩ rfl rfl hl.1 rfl (lv_room (Nat.le_of_ble_eq_true rfl)) dX11_entry_14 ⟨hr_4c, hr_4s⟩) hS (fun q _ h => hFc q h) hFc (fun r_3 u t H1 locs ht hvm hw hB hz1 hk1 hS => ?_)
  obtain ⟨hP1, hK1, hD1⟩ := hB
  rw [ht] at hP1
  obtain ⟨hP, hD⟩ := va_join (wr := []) (w1 := [(h0, .inr (11, [f0, f1, f2, f3, f4, f5, f6, f7, f8, .int 0, .int 0, .int 0, .int 0, f13, f14, f15, .int 0, .int 0, .int 0, .int 1]))]) hP hD [0] [] rfl rfl (by decide +kernel) (by decide +kernel) hk1 hFc hP1 hD1
  generalize H1 = H at hP hS ⊢
  have hP : va_P (dC, dI) vwCl [(h0, .inr (11, [f0, f1, f2, f3, f4, f5, f6, f7, f8, .int 0, .int 0, .int 0, .int 0, f13, f14, f15, .int 0, .int 0, .int 0, .int 1]))] H := hP
  have hD : va_D A [(h0, .inr (11, [f0, f1, f2, f3, f4, f5, f6, f7, f8, .int 0, .int 0, .int 0, .int 0, f13, f14, f15, .int 0, .int 0, .int 0, .int 1]))] := hD
  have hw : r_3 = -1 := hw
  subst hw
  refine lv_i2l (v := (-1)) hx hb dX11_entry_17 (by decide +kernel) ?_
  exact W.lret (v := (-1)) hx hb hr (fun t ht hW => ⟨⟨(-1), (), rfl, (by decide), trivial⟩, hS.F ht⟩) hS.2.2 dX11_entry_18
def wq_X11_routes_o : List Cond := []
def wq_X11_routes : List Cond := .code yX11_routes cX11_routes 3 (some .int) :: (wq_X11_routes_o ++ ((wsV RX11 100 RX11 yX11_nodeAt wq_X11_nodeAt) ++ ((wsV RX11 76 RX11 yX11_refuse wq_X11_refuse) ++ ([]))))
set_option maxRecDepth 20000 in
theorem gt_wq_X11_routes : GoodIn lw_tbl wq_X11_routes := goodIn_ca (goodIn_p (.code yX11_routes cX11_routes 3 (some .int) :: wq_X11_routes_o) [1300] (by decide +kernel) (by decide +kernel)) (goodIn_app (goodIn_app (goodIn_of _ (by decide +kernel)) gt_wq_X11_nodeAt) (goodIn_app (goodIn_app (goodIn_of _ (by decide +kernel)) gt_wq_X11_refuse) (fun _ h => absurd h List.not_mem_nil)))
set_option maxRecDepth 20000 in
theorem wq_X11_routes_g0 : GoodIn wq_X11_routes (wsV RX11 100 RX11 yX11_nodeAt wq_X11_nodeAt) := goodIn_sub (fun w h => List.mem_cons_of_mem _ (List.mem_append_right _ (List.mem_append_left _ h))) (by decide +kernel)
set_option maxRecDepth 20000 in
theorem wq_X11_routes_g1 : GoodIn wq_X11_routes (wsV RX11 76 RX11 yX11_refuse wq_X11_refuse) := goodIn_sub (fun w h => List.mem_cons_of_mem _ (List.mem_append_right _ (List.mem_append_right _ (List.mem_append_left _ h)))) (by decide +kernel)
set_option maxHeartbeats 4000000 in
set_option maxRecDepth 100000 in
theorem k_X11_routes (l : Launch) (dC : Nat → ClassId) (dI : Nat → Nat → Nat) (sz : Nat) (h0 : Nat) (f0 : Value) (f1 : Value) (f2 : Value) (f3 : Value) (f4 : Value) (f5 : Value) (f6 : Value) (f7 : Value) (f8 : Value) (f13 : Value) (f14 : Value) (f15 : Value) (k : Int32) : Met l yX11_routes wq_X11_routes ({ frames := 10, cells := 0, slots := 0, locals := 1200 }) (va_Pc [.ref h0, .int k] (fun U => U.heap.size = sz ∧ va_P (dC, dI) vwCl [(h0, .inr (11, [f0, f1, f2, f3, f4, f5, f6, f7, f8, .int 0, .int 0, .int 0, .int 0, f13, f14, f15, .int 0, .int 0, .int 0, .int 0]))] U.heap ∧ va_K (dC, dI) vwCl [] U ∧ va_D (fun _ => True) [(h0, .inr (11, [f0, f1, f2, f3, f4, f5, f6, f7, f8, .int 0, .int 0, .int 0, .int 0, f13, f14, f15, .int 0, .int 0, .int 0, .int 0]))])) (va_Qi (fun (r : Int32) (_ : Unit) => r = -1) (fun (_ : Unit) (_ : State) => True) (va_A [(h0, .inr (11, [f0, f1, f2, f3, f4, f5, f6, f7, f8, .int 0, .int 0, .int 0, .int 0, f13, f14, f15, .int 0, .int 0, .int 0, .int 0]))] sz)) 0 0 (va_A [(h0, .inr (11, [f0, f1, f2, f3, f4, f5, f6, f7, f8, .int 0, .int 0, .int 0, .int 0, f13, f14, f15, .int 0, .int 0, .int 0, .int 0]))] sz) := by
  refine Met.ofW (cc := cX11_routes) (maxL := 3) (ret := (some .int)) (by decide +kernel) rfl ?_
  intro p e s m args below meth c s₁ B hml hv
  obtain ⟨rfl, hsz, hP, hK, hD0⟩ := hv
  have hx := B.exec
  have hb := B.bytes
  have hr := B.returns
  have hts := atoms_spec (ws := wq_X11_routes) B.pre
  have hown : s.vm.findClass RX11 = some m.cls := findClass_of_methodNamed B.named
  have hlocks := B.notSynchronized
  subst hsz
  have hD := hD0.self (sz := s.heap.size)
  generalize hAe : va_A [(h0, .inr (11, [f0, f1, f2, f3, f4, f5, f6, f7, f8, .int 0, .int 0, .int 0, .int 0, f13, f14, f15, .int 0, .int 0, .int 0, .int 0]))] s.heap.size = A at hD ⊢
  have hA : ∀ q : Nat, s.heap.size ≤ q → A q := fun q h => by rw [← hAe]; exact Or.inr h
  have hS : va_S A s.heap s.heap [] := va_S.rf
  have hP : va_P (dC, dI) vwCl [(h0, .inr (11, [f0, f1, f2, f3, f4, f5, f6, f7, f8, .int 0, .int 0, .int 0, .int 0, f13, f14, f15, .int 0, .int 0, .int 0, .int 0]))] s.heap := hP
  have hl := lv_entry ([.ref h0, .int k]) (n := 3) (Nat.le_of_ble_eq_true rfl)
  rw [lg_entry_eq]
  generalize (lg_sl ([.ref h0, .int k]) ++ List.replicate (3 - (lg_sl ([.ref h0, .int k])).length) Slot.unset).toArray = ls at hl ⊢
  have hl : lv_has ls 3 [(0, .ref h0), (1, .int k)] := hl
  refine lv_aload_n hx hb dX11_routes_0 rfl (lv_at hl 0 rfl) ?_
  refine lv_iload_n hx hb dX11_routes_1 rfl (lv_at hl 1 rfl) ?_
  have hPc := hP.sub (ws' := [(h0, .inr (11, [f0, f1, f2, f3, f4, f5, f6, f7, f8, .int 0, .int 0, .int 0, .int 0, f13, f14, f15, .int 0, .int 0, .int 0, .int 0]))]) [0] rfl
  have hDc := hD.sub (ws' := [(h0, .inr (11, [f0, f1, f2, f3, f4, f5, f6, f7, f8, .int 0, .int 0, .int 0, .int 0, f13, f14, f15, .int 0, .int 0, .int 0, .int 0]))]) [0] (by decide +kernel) rfl
  have hKc := hK.sub (tys' := []) [] rfl
  have hFc := va_free (wc := [(h0, .inr (11, [f0, f1, f2, f3, f4, f5, f6, f7, f8, .int 0, .int 0, .int 0, .int 0, f13, f14, f15, .int 0, .int 0, .int 0, .int 0]))]) hD hS hA [0] rfl
  have hr_2c : 0 + 0 ≤ 0 := by decide +kernel
  have hr_2s : 0 + 0 ≤ 0 := by decide +kernel
  refine va_callq (va_runV (As := [.int k]) (rest := []) ⟨hx, hb, hml, hown, hts⟩ (k_X11_nodeAt l dC dI s.heap.size h0 f0 f1 f2 f3 f4 f5 f6 f7 f8 (.int 0) (.int 0) (.int 0) f13 f14 f15 (.int 0) (.int 0) (.int 0) (.int 0) k) (cwV 1 hts wq_X11_routes_g0 rfl rfl rfl (by decide +kernel) ⟨Nat.le_of_ble_eq_true rfl, Nat.le_of_ble_eq_true rfl⟩) ⟨fun a U g mk q => by obtain ⟨q0, q1, qP, qK, qD⟩ := q; exact ⟨q0, q1, qP, va_K.moved (u := U) (U := U.calling g mk a) (Vm.Alike.refl U.vm) qK, qD⟩, va_recv hKc hPc (ci := 11) (q0 := 0) rfl rfl, fun U hU hW => ⟨rfl, by rw [hU], by rw [hU]; exact hPc, va_K.moved hW.alike hKc, hDc.weaken (fun _ _ _ _ => trivial)⟩⟩ rfl rfl hl.1 rfl (lv_room (Nat.le_of_ble_eq_true rfl)) dX11_routes_2 ⟨hr_2c, hr_2s⟩) hS (fun q _ h => hFc q h) hFc (fun r_1 u t H1 locs ht hvm hw hB hz1 hk1 hS => ?_)
  obtain ⟨hP1, hK1, hD1⟩ := hB
  rw [ht] at hP1
  obtain ⟨hP, hD⟩ := va_join (wr := []) (w1 := [(h0, .inr (11, [f0, f1, f2, f3, f4, f5, f6, f7, f8, .int 0, .int 0, .int 0, .int 0, f13, f14, f15, .int 0, .int 0, .int 0, .int 0]))]) hP hD [0] [] rfl rfl (by decide +kernel) (by decide +kernel) hk1 hFc hP1 hD1
  generalize H1 = H at hP hS ⊢
  have hP : va_P (dC, dI) vwCl [(h0, .inr (11, [f0, f1, f2, f3, f4, f5, f6, f7, f8, .int 0, .int 0, .int 0, .int 0, f13, f14, f15, .int 0, .int 0, .int 0, .int 0]))] H := hP
  have hD : va_D A [(h0, .inr (11, [f0, f1, f2, f3, f4, f5, f6, f7, f8, .int 0, .int 0, .int 0, .int 0, f13, f14, f15, .int 0, .int 0, .int 0, .int 0]))] := hD
  have hw : r_1 = none := hw
  subst hw
  refine W.eq (g2 := F0 m 5 ls [.null]) rfl ?_
  refine lv_astore_nN (lv' := [(2, .null), (0, .ref h0), (1, .int k)]) hx hb dX11_routes_5 rfl hl (by decide +kernel) rfl (fun ls hl => ?_)
  refine lv_aload_nN hx hb dX11_routes_6 rfl (lv_at hl 0 rfl) ?_
  refine lv_ifnonnullN hx hb dX11_routes_7 ?_
  refine lv_aload_n hx hb dX11_routes_10 rfl (lv_at hl 1 rfl) ?_
  refine lv_iconst (v := 1) hx hb dX11_routes_11 (by decide +kernel) ?_
  have hPc := hP.sub (ws' := [(h0, .inr (11, [f0, f1, f2, f3, f4, f5, f6, f7, f8, .int 0, .int 0, .int 0, .int 0, f13, f14, f15, .int 0, .int 0, .int 0, .int 0]))]) [0] rfl
  have hDc := hD.sub (ws' := [(h0, .inr (11, [f0, f1, f2, f3, f4, f5, f6, f7, f8, .int 0, .int 0, .int 0, .int 0, f13, f14, f15, .int 0, .int 0, .int 0, .int 0]))]) [0] (by decide +kernel) rfl
  have hKc := hK.sub (tys' := []) [] rfl
  have hFc := va_free (wc := [(h0, .inr (11, [f0, f1, f2, f3, f4, f5, f6, f7, f8, .int 0, .int 0, .int 0, .int 0, f13, f14, f15, .int 0, .int 0, .int 0, .int 0]))]) hD hS hA [0] rfl
  have hr_4c : 0 + 0 ≤ 0 := by decide +kernel
  have hr_4s : 0 + 0 ≤ 0 := by decide +kernel
  refine va_calli (va_runV (As := [.int 1]) (rest := []) ⟨hx, hb, hml, hown, hts⟩ (k_X11_refuse l dC dI H.size h0 f0 f1 f2 f3 f4 f5 f6 f7 f8 (.int 0) (.int 0) (.int 0) (.int 0) f13 f14 f15 (.int 0) (.int 0) (.int 0) (.int 0) 1) (cwV 1 hts wq_X11_routes_g1 rfl rfl rfl (by decide +kernel) ⟨Nat.le_of_ble_eq_true rfl, Nat.le_of_ble_eq_true rfl⟩) ⟨fun a U g mk q => by obtain ⟨q0, q1, qP, qK, qD⟩ := q; exact ⟨q0, q1, qP, va_K.moved (u := U) (U := U.calling g mk a) (Vm.Alike.refl U.vm) qK, qD⟩, va_recv hKc hPc (ci := 11) (q0 := 0) rfl rfl, fun U hU hW => ⟨rfl, by rw [hU], by rw [hU]; exact hPc, va_K.moved hW.alike hKc, hDc.weaken (fun _ _ _ _ => trivial)⟩⟩ rfl rfl hl.1 rfl (lv_room (Nat.le_of_ble_eq_true rfl)) dX11_routes_12 ⟨hr_4c, hr_4s⟩) hS (fun q _ h => hFc q h) hFc (fun r_3 u t H1 locs ht hvm hw hB hz1 hk1 hS => ?_)
  obtain ⟨hP1, hK1, hD1⟩ := hB
  rw [ht] at hP1
  obtain ⟨hP, hD⟩ := va_join (wr := []) (w1 := [(h0, .inr (11, [f0, f1, f2, f3, f4, f5, f6, f7, f8, .int 0, .int 0, .int 0, .int 0, f13, f14, f15, .int 0, .int 0, .int 0, .int 1]))]) hP hD [0] [] rfl rfl (by decide +kernel) (by decide +kernel) hk1 hFc hP1 hD1
  generalize H1 = H at hP hS ⊢
  have hP : va_P (dC, dI) vwCl [(h0, .inr (11, [f0, f1, f2, f3, f4, f5, f6, f7, f8, .int 0, .int 0, .int 0, .int 0, f13, f14, f15, .int 0, .int 0, .int 0, .int 1]))] H := hP
  have hD : va_D A [(h0, .inr (11, [f0, f1, f2, f3, f4, f5, f6, f7, f8, .int 0, .int 0, .int 0, .int 0, f13, f14, f15, .int 0, .int 0, .int 0, .int 1]))] := hD
  have hw : r_3 = -1 := hw
  subst hw
  exact W.iret (v := (-1)) hx hb hr (fun t ht hW => ⟨⟨(-1), (), rfl, rfl, trivial⟩, hS.F ht⟩) hS.2.2 dX11_routes_15
def wq_X11_route_o : List Cond := []
def wq_X11_route : List Cond := .code yX11_route cX11_route 6 (some .long) :: (wq_X11_route_o ++ ((wsV RX11 100 RX11 yX11_nodeAt wq_X11_nodeAt) ++ ((wsV RX11 76 RX11 yX11_refuse wq_X11_refuse) ++ ([]))))
set_option maxRecDepth 20000 in
theorem gt_wq_X11_route : GoodIn lw_tbl wq_X11_route := goodIn_ca (goodIn_p (.code yX11_route cX11_route 6 (some .long) :: wq_X11_route_o) [1304] (by decide +kernel) (by decide +kernel)) (goodIn_app (goodIn_app (goodIn_of _ (by decide +kernel)) gt_wq_X11_nodeAt) (goodIn_app (goodIn_app (goodIn_of _ (by decide +kernel)) gt_wq_X11_refuse) (fun _ h => absurd h List.not_mem_nil)))
set_option maxRecDepth 20000 in
theorem wq_X11_route_g0 : GoodIn wq_X11_route (wsV RX11 100 RX11 yX11_nodeAt wq_X11_nodeAt) := goodIn_sub (fun w h => List.mem_cons_of_mem _ (List.mem_append_right _ (List.mem_append_left _ h))) (by decide +kernel)
set_option maxRecDepth 20000 in
theorem wq_X11_route_g1 : GoodIn wq_X11_route (wsV RX11 76 RX11 yX11_refuse wq_X11_refuse) := goodIn_sub (fun w h => List.mem_cons_of_mem _ (List.mem_append_right _ (List.mem_append_right _ (List.mem_append_left _ h)))) (by decide +kernel)
set_option maxHeartbeats 4000000 in
set_option maxRecDepth 100000 in
theorem k_X11_route (l : Launch) (dC : Nat → ClassId) (dI : Nat → Nat → Nat) (sz : Nat) (h0 : Nat) (f0 : Value) (f1 : Value) (f2 : Value) (f3 : Value) (f4 : Value) (f5 : Value) (f6 : Value) (f7 : Value) (f8 : Value) (f13 : Value) (f14 : Value) (f15 : Value) (k : Int32) (j : Int32) (a : Int32) : Met l yX11_route wq_X11_route ({ frames := 10, cells := 0, slots := 0, locals := 1200 }) (va_Pc [.ref h0, .int k, .int j, .int a] (fun U => U.heap.size = sz ∧ va_P (dC, dI) vwCl [(h0, .inr (11, [f0, f1, f2, f3, f4, f5, f6, f7, f8, .int 0, .int 0, .int 0, .int 0, f13, f14, f15, .int 0, .int 0, .int 0, .int 0]))] U.heap ∧ va_K (dC, dI) vwCl [] U ∧ va_D (fun _ => True) [(h0, .inr (11, [f0, f1, f2, f3, f4, f5, f6, f7, f8, .int 0, .int 0, .int 0, .int 0, f13, f14, f15, .int 0, .int 0, .int 0, .int 0]))])) (va_Ql (fun (r : Int64) (_ : Unit) => r = -1) (fun (_ : Unit) (_ : State) => True) (va_A [(h0, .inr (11, [f0, f1, f2, f3, f4, f5, f6, f7, f8, .int 0, .int 0, .int 0, .int 0, f13, f14, f15, .int 0, .int 0, .int 0, .int 0]))] sz)) 0 0 (va_A [(h0, .inr (11, [f0, f1, f2, f3, f4, f5, f6, f7, f8, .int 0, .int 0, .int 0, .int 0, f13, f14, f15, .int 0, .int 0, .int 0, .int 0]))] sz) := by
  refine Met.ofW (cc := cX11_route) (maxL := 6) (ret := (some .long)) (by decide +kernel) rfl ?_
  intro p e s m args below meth c s₁ B hml hv
  obtain ⟨rfl, hsz, hP, hK, hD0⟩ := hv
  have hx := B.exec
  have hb := B.bytes
  have hr := B.returns
  have hts := atoms_spec (ws := wq_X11_route) B.pre
  have hown : s.vm.findClass RX11 = some m.cls := findClass_of_methodNamed B.named
  have hlocks := B.notSynchronized
  subst hsz
  have hD := hD0.self (sz := s.heap.size)
  generalize hAe : va_A [(h0, .inr (11, [f0, f1, f2, f3, f4, f5, f6, f7, f8, .int 0, .int 0, .int 0, .int 0, f13, f14, f15, .int 0, .int 0, .int 0, .int 0]))] s.heap.size = A at hD ⊢
  have hA : ∀ q : Nat, s.heap.size ≤ q → A q := fun q h => by rw [← hAe]; exact Or.inr h
  have hS : va_S A s.heap s.heap [] := va_S.rf
  have hP : va_P (dC, dI) vwCl [(h0, .inr (11, [f0, f1, f2, f3, f4, f5, f6, f7, f8, .int 0, .int 0, .int 0, .int 0, f13, f14, f15, .int 0, .int 0, .int 0, .int 0]))] s.heap := hP
  have hl := lv_entry ([.ref h0, .int k, .int j, .int a]) (n := 6) (Nat.le_of_ble_eq_true rfl)
  rw [lg_entry_eq]
  generalize (lg_sl ([.ref h0, .int k, .int j, .int a]) ++ List.replicate (6 - (lg_sl ([.ref h0, .int k, .int j, .int a])).length) Slot.unset).toArray = ls at hl ⊢
  have hl : lv_has ls 6 [(0, .ref h0), (1, .int k), (2, .int j), (3, .int a)] := hl
  refine lv_aload_n hx hb dX11_route_0 rfl (lv_at hl 0 rfl) ?_
  refine lv_iload_n hx hb dX11_route_1 rfl (lv_at hl 1 rfl) ?_
  have hPc := hP.sub (ws' := [(h0, .inr (11, [f0, f1, f2, f3, f4, f5, f6, f7, f8, .int 0, .int 0, .int 0, .int 0, f13, f14, f15, .int 0, .int 0, .int 0, .int 0]))]) [0] rfl
  have hDc := hD.sub (ws' := [(h0, .inr (11, [f0, f1, f2, f3, f4, f5, f6, f7, f8, .int 0, .int 0, .int 0, .int 0, f13, f14, f15, .int 0, .int 0, .int 0, .int 0]))]) [0] (by decide +kernel) rfl
  have hKc := hK.sub (tys' := []) [] rfl
  have hFc := va_free (wc := [(h0, .inr (11, [f0, f1, f2, f3, f4, f5, f6, f7, f8, .int 0, .int 0, .int 0, .int 0, f13, f14, f15, .int 0, .int 0, .int 0, .int 0]))]) hD hS hA [0] rfl
  have hr_2c : 0 + 0 ≤ 0 := by decide +kernel
  have hr_2s : 0 + 0 ≤ 0 := by decide +kernel
  refine va_callq (va_runV (As := [.int k]) (rest := []) ⟨hx, hb, hml, hown, hts⟩ (k_X11_nodeAt l dC dI s.heap.size h0 f0 f1 f2 f3 f4 f5 f6 f7 f8 (.int 0) (.int 0) (.int 0) f13 f14 f15 (.int 0) (.int 0) (.int 0) (.int 0) k) (cwV 1 hts wq_X11_route_g0 rfl rfl rfl (by decide +kernel) ⟨Nat.le_of_ble_eq_true rfl, Nat.le_of_ble_eq_true rfl⟩) ⟨fun a U g mk q => by obtain ⟨q0, q1, qP, qK, qD⟩ := q; exact ⟨q0, q1, qP, va_K.moved (u := U) (U := U.calling g mk a) (Vm.Alike.refl U.vm) qK, qD⟩, va_recv hKc hPc (ci := 11) (q0 := 0) rfl rfl, fun U hU hW => ⟨rfl, by rw [hU], by rw [hU]; exact hPc, va_K.moved hW.alike hKc, hDc.weaken (fun _ _ _ _ => trivial)⟩⟩ rfl rfl hl.1 rfl (lv_room (Nat.le_of_ble_eq_true rfl)) dX11_route_2 ⟨hr_2c, hr_2s⟩) hS (fun q _ h => hFc q h) hFc (fun r_1 u t H1 locs ht hvm hw hB hz1 hk1 hS => ?_)
  obtain ⟨hP1, hK1, hD1⟩ := hB
  rw [ht] at hP1
  obtain ⟨hP, hD⟩ := va_join (wr := []) (w1 := [(h0, .inr (11, [f0, f1, f2, f3, f4, f5, f6, f7, f8, .int 0, .int 0, .int 0, .int 0, f13, f14, f15, .int 0, .int 0, .int 0, .int 0]))]) hP hD [0] [] rfl rfl (by decide +kernel) (by decide +kernel) hk1 hFc hP1 hD1
  generalize H1 = H at hP hS ⊢
  have hP : va_P (dC, dI) vwCl [(h0, .inr (11, [f0, f1, f2, f3, f4, f5, f6, f7, f8, .int 0, .int 0, .int 0, .int 0, f13, f14, f15, .int 0, .int 0, .int 0, .int 0]))] H := hP
  have hD : va_D A [(h0, .inr (11, [f0, f1, f2, f3, f4, f5, f6, f7, f8, .int 0, .int 0, .int 0, .int 0, f13, f14, f15, .int 0, .int 0, .int 0, .int 0]))] := hD
  have hw : r_1 = none := hw
  subst hw
  refine W.eq (g2 := F0 m 5 ls [.null]) rfl ?_
  refine lv_astoreN (lv' := [(4, .null), (0, .ref h0), (1, .int k), (2, .int j), (3, .int a)]) hx hb dX11_route_5 hl (by decide +kernel) rfl (fun ls hl => ?_)
  refine lv_aloadN hx hb dX11_route_7 (lv_at hl 0 rfl) ?_
  refine lv_ifnonnullN hx hb dX11_route_9 ?_
  refine lv_aload_n hx hb dX11_route_12 rfl (lv_at hl 1 rfl) ?_
  refine lv_iconst (v := 1) hx hb dX11_route_13 (by decide +kernel) ?_
  have hPc := hP.sub (ws' := [(h0, .inr (11, [f0, f1, f2, f3, f4, f5, f6, f7, f8, .int 0, .int 0, .int 0, .int 0, f13, f14, f15, .int 0, .int 0, .int 0, .int 0]))]) [0] rfl
  have hDc := hD.sub (ws' := [(h0, .inr (11, [f0, f1, f2, f3, f4, f5, f6, f7, f8, .int 0, .int 0, .int 0, .int 0, f13, f14, f15, .int 0, .int 0, .int 0, .int 0]))]) [0] (by decide +kernel) rfl
  have hKc := hK.sub (tys' := []) [] rfl
  have hFc := va_free (wc := [(h0, .inr (11, [f0, f1, f2, f3, f4, f5, f6, f7, f8, .int 0, .int 0, .int 0, .int 0, f13, f14, f15, .int 0, .int 0, .int 0, .int 0]))]) hD hS hA [0] rfl
  have hr_4c : 0 + 0 ≤ 0 := by decide +kernel
  have hr_4s : 0 + 0 ≤ 0 := by decide +kernel
  refine va_calli (va_runV (As := [.int 1]) (rest := []) ⟨hx, hb, hml, hown, hts⟩ (k_X11_refuse l dC dI H.size h0 f0 f1 f2 f3 f4 f5 f6 f7 f8 (.int 0) (.int 0) (.int 0) (.int 0) f13 f14 f15 (.int 0) (.int 0) (.int 0) (.int 0) 1) (cwV 1 hts wq_X11_route_g1 rfl rfl rfl (by decide +kernel) ⟨Nat.le_of_ble_eq_true rfl, Nat.le_of_ble_eq_true rfl⟩) ⟨fun a U g mk q => by obtain ⟨q0, q1, qP, qK, qD⟩ := q; exact ⟨q0, q1, qP, va_K.moved (u := U) (U := U.calling g mk a) (Vm.Alike.refl U.vm) qK, qD⟩, va_recv hKc hPc (ci := 11) (q0 := 0) rfl rfl, fun U hU hW => ⟨rfl, by rw [hU], by rw [hU]; exact hPc, va_K.moved hW.alike hKc, hDc.weaken (fun _ _ _ _ => trivial)⟩⟩ rfl rfl hl.1 rfl (lv_room (Nat.le_of_ble_eq_true rfl)) dX11_route_14 ⟨hr_4c, hr_4s⟩) hS (fun q _ h => hFc q h) hFc (fun r_3 u t H1 locs ht hvm hw hB hz1 hk1 hS => ?_)
  obtain ⟨hP1, hK1, hD1⟩ := hB
  rw [ht] at hP1
  obtain ⟨hP, hD⟩ := va_join (wr := []) (w1 := [(h0, .inr (11, [f0, f1, f2, f3, f4, f5, f6, f7, f8, .int 0, .int 0, .int 0, .int 0, f13, f14, f15, .int 0, .int 0, .int 0, .int 1]))]) hP hD [0] [] rfl rfl (by decide +kernel) (by decide +kernel) hk1 hFc hP1 hD1
  generalize H1 = H at hP hS ⊢
  have hP : va_P (dC, dI) vwCl [(h0, .inr (11, [f0, f1, f2, f3, f4, f5, f6, f7, f8, .int 0, .int 0, .int 0, .int 0, f13, f14, f15, .int 0, .int 0, .int 0, .int 1]))] H := hP
  have hD : va_D A [(h0, .inr (11, [f0, f1, f2, f3, f4, f5, f6, f7, f8, .int 0, .int 0, .int 0, .int 0, f13, f14, f15, .int 0, .int 0, .int 0, .int 1]))] := hD
  have hw : r_3 = -1 := hw
  subst hw
  refine lv_i2l (v := (-1)) hx hb dX11_route_17 (by decide +kernel) ?_
  exact W.lret (v := (-1)) hx hb hr (fun t ht hW => ⟨⟨(-1), (), rfl, (by decide), trivial⟩, hS.F ht⟩) hS.2.2 dX11_route_18
def wq_X11_way_o : List Cond := []
def wq_X11_way : List Cond := .code yX11_way cX11_way 5 (some .int) :: (wq_X11_way_o ++ ((wsV RX11 100 RX11 yX11_nodeAt wq_X11_nodeAt) ++ ((wsV RX11 76 RX11 yX11_refuse wq_X11_refuse) ++ ([]))))
set_option maxRecDepth 20000 in
theorem gt_wq_X11_way : GoodIn lw_tbl wq_X11_way := goodIn_ca (goodIn_p (.code yX11_way cX11_way 5 (some .int) :: wq_X11_way_o) [1312] (by decide +kernel) (by decide +kernel)) (goodIn_app (goodIn_app (goodIn_of _ (by decide +kernel)) gt_wq_X11_nodeAt) (goodIn_app (goodIn_app (goodIn_of _ (by decide +kernel)) gt_wq_X11_refuse) (fun _ h => absurd h List.not_mem_nil)))
set_option maxRecDepth 20000 in
theorem wq_X11_way_g0 : GoodIn wq_X11_way (wsV RX11 100 RX11 yX11_nodeAt wq_X11_nodeAt) := goodIn_sub (fun w h => List.mem_cons_of_mem _ (List.mem_append_right _ (List.mem_append_left _ h))) (by decide +kernel)
set_option maxRecDepth 20000 in
theorem wq_X11_way_g1 : GoodIn wq_X11_way (wsV RX11 76 RX11 yX11_refuse wq_X11_refuse) := goodIn_sub (fun w h => List.mem_cons_of_mem _ (List.mem_append_right _ (List.mem_append_right _ (List.mem_append_left _ h)))) (by decide +kernel)
set_option maxHeartbeats 4000000 in
set_option maxRecDepth 100000 in
theorem k_X11_way (l : Launch) (dC : Nat → ClassId) (dI : Nat → Nat → Nat) (sz : Nat) (h0 : Nat) (f0 : Value) (f1 : Value) (f2 : Value) (f3 : Value) (f4 : Value) (f5 : Value) (f6 : Value) (f7 : Value) (f8 : Value) (f13 : Value) (f14 : Value) (f15 : Value) (k : Int32) (xm : Int64) : Met l yX11_way wq_X11_way ({ frames := 10, cells := 0, slots := 0, locals := 1200 }) (va_Pc [.ref h0, .int k, .long xm] (fun U => U.heap.size = sz ∧ va_P (dC, dI) vwCl [(h0, .inr (11, [f0, f1, f2, f3, f4, f5, f6, f7, f8, .int 0, .int 0, .int 0, .int 0, f13, f14, f15, .int 0, .int 0, .int 0, .int 0]))] U.heap ∧ va_K (dC, dI) vwCl [] U ∧ va_D (fun _ => True) [(h0, .inr (11, [f0, f1, f2, f3, f4, f5, f6, f7, f8, .int 0, .int 0, .int 0, .int 0, f13, f14, f15, .int 0, .int 0, .int 0, .int 0]))])) (va_Qi (fun (r : Int32) (_ : Unit) => r = -1) (fun (_ : Unit) (_ : State) => True) (va_A [(h0, .inr (11, [f0, f1, f2, f3, f4, f5, f6, f7, f8, .int 0, .int 0, .int 0, .int 0, f13, f14, f15, .int 0, .int 0, .int 0, .int 0]))] sz)) 0 0 (va_A [(h0, .inr (11, [f0, f1, f2, f3, f4, f5, f6, f7, f8, .int 0, .int 0, .int 0, .int 0, f13, f14, f15, .int 0, .int 0, .int 0, .int 0]))] sz) := by
  refine Met.ofW (cc := cX11_way) (maxL := 5) (ret := (some .int)) (by decide +kernel) rfl ?_
  intro p e s m args below meth c s₁ B hml hv
  obtain ⟨rfl, hsz, hP, hK, hD0⟩ := hv
  have hx := B.exec
  have hb := B.bytes
  have hr := B.returns
  have hts := atoms_spec (ws := wq_X11_way) B.pre
  have hown : s.vm.findClass RX11 = some m.cls := findClass_of_methodNamed B.named
  have hlocks := B.notSynchronized
  subst hsz
  have hD := hD0.self (sz := s.heap.size)
  generalize hAe : va_A [(h0, .inr (11, [f0, f1, f2, f3, f4, f5, f6, f7, f8, .int 0, .int 0, .int 0, .int 0, f13, f14, f15, .int 0, .int 0, .int 0, .int 0]))] s.heap.size = A at hD ⊢
  have hA : ∀ q : Nat, s.heap.size ≤ q → A q := fun q h => by rw [← hAe]; exact Or.inr h
  have hS : va_S A s.heap s.heap [] := va_S.rf
  have hP : va_P (dC, dI) vwCl [(h0, .inr (11, [f0, f1, f2, f3, f4, f5, f6, f7, f8, .int 0, .int 0, .int 0, .int 0, f13, f14, f15, .int 0, .int 0, .int 0, .int 0]))] s.heap := hP
  have hl := lv_entry ([.ref h0, .int k, .long xm]) (n := 5) (Nat.le_of_ble_eq_true rfl)
  rw [lg_entry_eq]
  generalize (lg_sl ([.ref h0, .int k, .long xm]) ++ List.replicate (5 - (lg_sl ([.ref h0, .int k, .long xm])).length) Slot.unset).toArray = ls at hl ⊢
  have hl : lv_has ls 5 [(0, .ref h0), (1, .int k), (2, .long xm)] := hl
  refine lv_aload_n hx hb dX11_way_0 rfl (lv_at hl 0 rfl) ?_
  refine lv_iload_n hx hb dX11_way_1 rfl (lv_at hl 1 rfl) ?_
  have hPc := hP.sub (ws' := [(h0, .inr (11, [f0, f1, f2, f3, f4, f5, f6, f7, f8, .int 0, .int 0, .int 0, .int 0, f13, f14, f15, .int 0, .int 0, .int 0, .int 0]))]) [0] rfl
  have hDc := hD.sub (ws' := [(h0, .inr (11, [f0, f1, f2, f3, f4, f5, f6, f7, f8, .int 0, .int 0, .int 0, .int 0, f13, f14, f15, .int 0, .int 0, .int 0, .int 0]))]) [0] (by decide +kernel) rfl
  have hKc := hK.sub (tys' := []) [] rfl
  have hFc := va_free (wc := [(h0, .inr (11, [f0, f1, f2, f3, f4, f5, f6, f7, f8, .int 0, .int 0, .int 0, .int 0, f13, f14, f15, .int 0, .int 0, .int 0, .int 0]))]) hD hS hA [0] rfl
  have hr_2c : 0 + 0 ≤ 0 := by decide +kernel
  have hr_2s : 0 + 0 ≤ 0 := by decide +kernel
  refine va_callq (va_runV (As := [.int k]) (rest := []) ⟨hx, hb, hml, hown, hts⟩ (k_X11_nodeAt l dC dI s.heap.size h0 f0 f1 f2 f3 f4 f5 f6 f7 f8 (.int 0) (.int 0) (.int 0) f13 f14 f15 (.int 0) (.int 0) (.int 0) (.int 0) k) (cwV 1 hts wq_X11_way_g0 rfl rfl rfl (by decide +kernel) ⟨Nat.le_of_ble_eq_true rfl, Nat.le_of_ble_eq_true rfl⟩) ⟨fun a U g mk q => by obtain ⟨q0, q1, qP, qK, qD⟩ := q; exact ⟨q0, q1, qP, va_K.moved (u := U) (U := U.calling g mk a) (Vm.Alike.refl U.vm) qK, qD⟩, va_recv hKc hPc (ci := 11) (q0 := 0) rfl rfl, fun U hU hW => ⟨rfl, by rw [hU], by rw [hU]; exact hPc, va_K.moved hW.alike hKc, hDc.weaken (fun _ _ _ _ => trivial)⟩⟩ rfl rfl hl.1 rfl (lv_room (Nat.le_of_ble_eq_true rfl)) dX11_way_2 ⟨hr_2c, hr_2s⟩) hS (fun q _ h => hFc q h) hFc (fun r_1 u t H1 locs ht hvm hw hB hz1 hk1 hS => ?_)
  obtain ⟨hP1, hK1, hD1⟩ := hB
  rw [ht] at hP1
  obtain ⟨hP, hD⟩ := va_join (wr := []) (w1 := [(h0, .inr (11, [f0, f1, f2, f3, f4, f5, f6, f7, f8, .int 0, .int 0, .int 0, .int 0, f13, f14, f15, .int 0, .int 0, .int 0, .int 0]))]) hP hD [0] [] rfl rfl (by decide +kernel) (by decide +kernel) hk1 hFc hP1 hD1
  generalize H1 = H at hP hS ⊢
  have hP : va_P (dC, dI) vwCl [(h0, .inr (11, [f0, f1, f2, f3, f4, f5, f6, f7, f8, .int 0, .int 0, .int 0, .int 0, f13, f14, f15, .int 0, .int 0, .int 0, .int 0]))] H := hP
  have hD : va_D A [(h0, .inr (11, [f0, f1, f2, f3, f4, f5, f6, f7, f8, .int 0, .int 0, .int 0, .int 0, f13, f14, f15, .int 0, .int 0, .int 0, .int 0]))] := hD
  have hw : r_1 = none := hw
  subst hw
  refine W.eq (g2 := F0 m 5 ls [.null]) rfl ?_
  refine lv_astoreN (lv' := [(4, .null), (0, .ref h0), (1, .int k), (2, .long xm)]) hx hb dX11_way_5 hl (by decide +kernel) rfl (fun ls hl => ?_)
  refine lv_aloadN hx hb dX11_way_7 (lv_at hl 0 rfl) ?_
  refine lv_ifnonnullN hx hb dX11_way_9 ?_
  refine lv_aload_n hx hb dX11_way_12 rfl (lv_at hl 1 rfl) ?_
  refine lv_iconst (v := 1) hx hb dX11_way_13 (by decide +kernel) ?_
  have hPc := hP.sub (ws' := [(h0, .inr (11, [f0, f1, f2, f3, f4, f5, f6, f7, f8, .int 0, .int 0, .int 0, .int 0, f13, f14, f15, .int 0, .int 0, .int 0, .int 0]))]) [0] rfl
  have hDc := hD.sub (ws' := [(h0, .inr (11, [f0, f1, f2, f3, f4, f5, f6, f7, f8, .int 0, .int 0, .int 0, .int 0, f13, f14, f15, .int 0, .int 0, .int 0, .int 0]))]) [0] (by decide +kernel) rfl
  have hKc := hK.sub (tys' := []) [] rfl
  have hFc := va_free (wc := [(h0, .inr (11, [f0, f1, f2, f3, f4, f5, f6, f7, f8, .int 0, .int 0, .int 0, .int 0, f13, f14, f15, .int 0, .int 0, .int 0, .int 0]))]) hD hS hA [0] rfl
  have hr_4c : 0 + 0 ≤ 0 := by decide +kernel
  have hr_4s : 0 + 0 ≤ 0 := by decide +kernel
  refine va_calli (va_runV (As := [.int 1]) (rest := []) ⟨hx, hb, hml, hown, hts⟩ (k_X11_refuse l dC dI H.size h0 f0 f1 f2 f3 f4 f5 f6 f7 f8 (.int 0) (.int 0) (.int 0) (.int 0) f13 f14 f15 (.int 0) (.int 0) (.int 0) (.int 0) 1) (cwV 1 hts wq_X11_way_g1 rfl rfl rfl (by decide +kernel) ⟨Nat.le_of_ble_eq_true rfl, Nat.le_of_ble_eq_true rfl⟩) ⟨fun a U g mk q => by obtain ⟨q0, q1, qP, qK, qD⟩ := q; exact ⟨q0, q1, qP, va_K.moved (u := U) (U := U.calling g mk a) (Vm.Alike.refl U.vm) qK, qD⟩, va_recv hKc hPc (ci := 11) (q0 := 0) rfl rfl, fun U hU hW => ⟨rfl, by rw [hU], by rw [hU]; exact hPc, va_K.moved hW.alike hKc, hDc.weaken (fun _ _ _ _ => trivial)⟩⟩ rfl rfl hl.1 rfl (lv_room (Nat.le_of_ble_eq_true rfl)) dX11_way_14 ⟨hr_4c, hr_4s⟩) hS (fun q _ h => hFc q h) hFc (fun r_3 u t H1 locs ht hvm hw hB hz1 hk1 hS => ?_)
  obtain ⟨hP1, hK1, hD1⟩ := hB
  rw [ht] at hP1
  obtain ⟨hP, hD⟩ := va_join (wr := []) (w1 := [(h0, .inr (11, [f0, f1, f2, f3, f4, f5, f6, f7, f8, .int 0, .int 0, .int 0, .int 0, f13, f14, f15, .int 0, .int 0, .int 0, .int 1]))]) hP hD [0] [] rfl rfl (by decide +kernel) (by decide +kernel) hk1 hFc hP1 hD1
  generalize H1 = H at hP hS ⊢
  have hP : va_P (dC, dI) vwCl [(h0, .inr (11, [f0, f1, f2, f3, f4, f5, f6, f7, f8, .int 0, .int 0, .int 0, .int 0, f13, f14, f15, .int 0, .int 0, .int 0, .int 1]))] H := hP
  have hD : va_D A [(h0, .inr (11, [f0, f1, f2, f3, f4, f5, f6, f7, f8, .int 0, .int 0, .int 0, .int 0, f13, f14, f15, .int 0, .int 0, .int 0, .int 1]))] := hD
  have hw : r_3 = -1 := hw
  subst hw
  exact W.iret (v := (-1)) hx hb hr (fun t ht hW => ⟨⟨(-1), (), rfl, rfl, trivial⟩, hS.F ht⟩) hS.2.2 dX11_way_17
def wq_X11_heard_o : List Cond := []
def wq_X11_heard : List Cond := .code yX11_heard cX11_heard 5 (some .int) :: (wq_X11_heard_o ++ ((wsV RX11 162 RX11 yX11_whyNotHosts wq_X11_whyNotHosts) ++ ((wsV RX11 76 RX11 yX11_refuse wq_X11_refuse) ++ ([]))))
set_option maxRecDepth 20000 in
theorem gt_wq_X11_heard : GoodIn lw_tbl wq_X11_heard := goodIn_ca (goodIn_p (.code yX11_heard cX11_heard 5 (some .int) :: wq_X11_heard_o) [1316] (by decide +kernel) (by decide +kernel)) (goodIn_app (goodIn_app (goodIn_of _ (by decide +kernel)) gt_wq_X11_whyNotHosts) (goodIn_app (goodIn_app (goodIn_of _ (by decide +kernel)) gt_wq_X11_refuse) (fun _ h => absurd h List.not_mem_nil)))
set_option maxRecDepth 20000 in
theorem wq_X11_heard_g0 : GoodIn wq_X11_heard (wsV RX11 162 RX11 yX11_whyNotHosts wq_X11_whyNotHosts) := goodIn_sub (fun w h => List.mem_cons_of_mem _ (List.mem_append_right _ (List.mem_append_left _ h))) (by decide +kernel)
set_option maxRecDepth 20000 in
theorem wq_X11_heard_g1 : GoodIn wq_X11_heard (wsV RX11 76 RX11 yX11_refuse wq_X11_refuse) := goodIn_sub (fun w h => List.mem_cons_of_mem _ (List.mem_append_right _ (List.mem_append_right _ (List.mem_append_left _ h)))) (by decide +kernel)
set_option maxHeartbeats 4000000 in
set_option maxRecDepth 100000 in
theorem k_X11_heard (l : Launch) (dC : Nat → ClassId) (dI : Nat → Nat → Nat) (sz : Nat) (h0 : Nat) (f0 : Value) (f1 : Value) (f2 : Value) (f3 : Value) (f4 : Value) (f5 : Value) (f6 : Value) (f7 : Value) (f8 : Value) (f13 : Value) (f14 : Value) (f15 : Value) (k : Int32) (j : Int32) : Met l yX11_heard wq_X11_heard ({ frames := 10, cells := 0, slots := 0, locals := 1200 }) (va_Pc [.ref h0, .int k, .int j] (fun U => U.heap.size = sz ∧ va_P (dC, dI) vwCl [(h0, .inr (11, [f0, f1, f2, f3, f4, f5, f6, f7, f8, .int 0, .int 0, .int 0, .int 0, f13, f14, f15, .int 0, .int 0, .int 0, .int 0]))] U.heap ∧ va_K (dC, dI) vwCl [] U ∧ va_D (fun _ => True) [(h0, .inr (11, [f0, f1, f2, f3, f4, f5, f6, f7, f8, .int 0, .int 0, .int 0, .int 0, f13, f14, f15, .int 0, .int 0, .int 0, .int 0]))])) (va_Qi (fun (r : Int32) (_ : Unit) => r = -1) (fun (_ : Unit) (_ : State) => True) (va_A [(h0, .inr (11, [f0, f1, f2, f3, f4, f5, f6, f7, f8, .int 0, .int 0, .int 0, .int 0, f13, f14, f15, .int 0, .int 0, .int 0, .int 0]))] sz)) 0 0 (va_A [(h0, .inr (11, [f0, f1, f2, f3, f4, f5, f6, f7, f8, .int 0, .int 0, .int 0, .int 0, f13, f14, f15, .int 0, .int 0, .int 0, .int 0]))] sz) := by
  refine Met.ofW (cc := cX11_heard) (maxL := 5) (ret := (some .int)) (by decide +kernel) rfl ?_
  intro p e s m args below meth c s₁ B hml hv
  obtain ⟨rfl, hsz, hP, hK, hD0⟩ := hv
  have hx := B.exec
  have hb := B.bytes
  have hr := B.returns
  have hts := atoms_spec (ws := wq_X11_heard) B.pre
  have hown : s.vm.findClass RX11 = some m.cls := findClass_of_methodNamed B.named
  have hlocks := B.notSynchronized
  subst hsz
  have hD := hD0.self (sz := s.heap.size)
  generalize hAe : va_A [(h0, .inr (11, [f0, f1, f2, f3, f4, f5, f6, f7, f8, .int 0, .int 0, .int 0, .int 0, f13, f14, f15, .int 0, .int 0, .int 0, .int 0]))] s.heap.size = A at hD ⊢
  have hA : ∀ q : Nat, s.heap.size ≤ q → A q := fun q h => by rw [← hAe]; exact Or.inr h
  have hS : va_S A s.heap s.heap [] := va_S.rf
  have hP : va_P (dC, dI) vwCl [(h0, .inr (11, [f0, f1, f2, f3, f4, f5, f6, f7, f8, .int 0, .int 0, .int 0, .int 0, f13, f14, f15, .int 0, .int 0, .int 0, .int 0]))] s.heap := hP
  have hl := lv_entry ([.ref h0, .int k, .int j]) (n := 5) (Nat.le_of_ble_eq_true rfl)
  rw [lg_entry_eq]
  generalize (lg_sl ([.ref h0, .int k, .int j]) ++ List.replicate (5 - (lg_sl ([.ref h0, .int k, .int j])).length) Slot.unset).toArray = ls at hl ⊢
  have hl : lv_has ls 5 [(0, .ref h0), (1, .int k), (2, .int j)] := hl
  refine lv_aload_n hx hb dX11_heard_0 rfl (lv_at hl 0 rfl) ?_
  refine lv_iload_n hx hb dX11_heard_1 rfl (lv_at hl 1 rfl) ?_
  refine lv_iload_n hx hb dX11_heard_2 rfl (lv_at hl 2 rfl) ?_
  have hPc := hP.sub (ws' := [(h0, .inr (11, [f0, f1, f2, f3, f4, f5, f6, f7, f8, .int 0, .int 0, .int 0, .int 0, f13, f14, f15, .int 0, .int 0, .int 0, .int 0]))]) [0] rfl
  have hDc := hD.sub (ws' := [(h0, .inr (11, [f0, f1, f2, f3, f4, f5, f6, f7, f8, .int 0, .int 0, .int 0, .int 0, f13, f14, f15, .int 0, .int 0, .int 0, .int 0]))]) [0] (by decide +kernel) rfl
  have hKc := hK.sub (tys' := []) [] rfl
  have hFc := va_free (wc := [(h0, .inr (11, [f0, f1, f2, f3, f4, f5, f6, f7, f8, .int 0, .int 0, .int 0, .int 0, f13, f14, f15, .int 0, .int 0, .int 0, .int 0]))]) hD hS hA [0] rfl
  have hr_2c : 0 + 0 ≤ 0 := by decide +kernel
  have hr_2s : 0 + 0 ≤ 0 := by decide +kernel
  refine va_calli (va_runV (As := [.int k, .int j]) (rest := []) ⟨hx, hb, hml, hown, hts⟩ (k_X11_whyNotHosts l dC dI s.heap.size h0 f0 f1 f2 f3 f4 f5 f6 f7 f8 (.int 0) (.int 0) (.int 0) f13 f14 f15 (.int 0) (.int 0) (.int 0) (.int 0) k j) (cwV 2 hts wq_X11_heard_g0 rfl rfl rfl (by decide +kernel) ⟨Nat.le_of_ble_eq_true rfl, Nat.le_of_ble_eq_true rfl⟩) ⟨fun a U g mk q => by obtain ⟨q0, q1, qP, qK, qD⟩ := q; exact ⟨q0, q1, qP, va_K.moved (u := U) (U := U.calling g mk a) (Vm.Alike.refl U.vm) qK, qD⟩, va_recv hKc hPc (ci := 11) (q0 := 0) rfl rfl, fun U hU hW => ⟨rfl, by rw [hU], by rw [hU]; exact hPc, va_K.moved hW.alike hKc, hDc.weaken (fun _ _ _ _ => trivial)⟩⟩ rfl rfl hl.1 rfl (lv_room (Nat.le_of_ble_eq_true rfl)) dX11_heard_3 ⟨hr_2c, hr_2s⟩) hS (fun q _ h => hFc q h) hFc (fun r_1 u t H1 locs ht hvm hw hB hz1 hk1 hS => ?_)
  obtain ⟨hP1, hK1, hD1⟩ := hB
  rw [ht] at hP1
  obtain ⟨hP, hD⟩ := va_join (wr := []) (w1 := [(h0, .inr (11, [f0, f1, f2, f3, f4, f5, f6, f7, f8, .int 0, .int 0, .int 0, .int 0, f13, f14, f15, .int 0, .int 0, .int 0, .int 0]))]) hP hD [0] [] rfl rfl (by decide +kernel) (by decide +kernel) hk1 hFc hP1 hD1
  generalize H1 = H at hP hS ⊢
  have hP : va_P (dC, dI) vwCl [(h0, .inr (11, [f0, f1, f2, f3, f4, f5, f6, f7, f8, .int 0, .int 0, .int 0, .int 0, f13, f14, f15, .int 0, .int 0, .int 0, .int 0]))] H := hP
  have hD : va_D A [(h0, .inr (11, [f0, f1, f2, f3, f4, f5, f6, f7, f8, .int 0, .int 0, .int 0, .int 0, f13, f14, f15, .int 0, .int 0, .int 0, .int 0]))] := hD
  have hw : r_1 = 1 := hw
  subst hw
  refine lv_istore_n (lv' := [(3, .int 1), (0, .ref h0), (1, .int k), (2, .int j)]) hx hb dX11_heard_6 rfl hl (by decide +kernel) rfl (fun ls hl => ?_)
  refine lv_iload_n hx hb dX11_heard_7 rfl (lv_at hl 0 rfl) ?_
  refine lv_if_eq (tgt := 17) hx hb dX11_heard_8 (by decide +kernel) (fun c_3 => ?_) (fun c_3 => ?_)
  · exact absurd c_3 (by decide +kernel)
  · refine lv_aload_n hx hb dX11_heard_11 rfl (lv_at hl 1 rfl) ?_
    refine lv_iload_n hx hb dX11_heard_12 rfl (lv_at hl 0 rfl) ?_
    have hPc := hP.sub (ws' := [(h0, .inr (11, [f0, f1, f2, f3, f4, f5, f6, f7, f8, .int 0, .int 0, .int 0, .int 0, f13, f14, f15, .int 0, .int 0, .int 0, .int 0]))]) [0] rfl
    have hDc := hD.sub (ws' := [(h0, .inr (11, [f0, f1, f2, f3, f4, f5, f6, f7, f8, .int 0, .int 0, .int 0, .int 0, f13, f14, f15, .int 0, .int 0, .int 0, .int 0]))]) [0] (by decide +kernel) rfl
    have hKc := hK.sub (tys' := []) [] rfl
    have hFc := va_free (wc := [(h0, .inr (11, [f0, f1, f2, f3, f4, f5, f6, f7, f8, .int 0, .int 0, .int 0, .int 0, f13, f14, f15, .int 0, .int 0, .int 0, .int 0]))]) hD hS hA [0] rfl
    have hr_5c : 0 + 0 ≤ 0 := by decide +kernel
    have hr_5s : 0 + 0 ≤ 0 := by decide +kernel
    refine va_calli (va_runV (As := [.int 1]) (rest := []) ⟨hx, hb, hml, hown, hts⟩ (k_X11_refuse l dC dI H.size h0 f0 f1 f2 f3 f4 f5 f6 f7 f8 (.int 0) (.int 0) (.int 0) (.int 0) f13 f14 f15 (.int 0) (.int 0) (.int 0) (.int 0) 1) (cwV 1 hts wq_X11_heard_g1 rfl rfl rfl (by decide +kernel) ⟨Nat.le_of_ble_eq_true rfl, Nat.le_of_ble_eq_true rfl⟩) ⟨fun a U g mk q => by obtain ⟨q0, q1, qP, qK, qD⟩ := q; exact ⟨q0, q1, qP, va_K.moved (u := U) (U := U.calling g mk a) (Vm.Alike.refl U.vm) qK, qD⟩, va_recv hKc hPc (ci := 11) (q0 := 0) rfl rfl, fun U hU hW => ⟨rfl, by rw [hU], by rw [hU]; exact hPc, va_K.moved hW.alike hKc, hDc.weaken (fun _ _ _ _ => trivial)⟩⟩ rfl rfl hl.1 rfl (lv_room (Nat.le_of_ble_eq_true rfl)) dX11_heard_13 ⟨hr_5c, hr_5s⟩) hS (fun q _ h => hFc q h) hFc (fun r_4 u t H1 locs ht hvm hw hB hz1 hk1 hS => ?_)
    obtain ⟨hP1, hK1, hD1⟩ := hB
    rw [ht] at hP1
    obtain ⟨hP, hD⟩ := va_join (wr := []) (w1 := [(h0, .inr (11, [f0, f1, f2, f3, f4, f5, f6, f7, f8, .int 0, .int 0, .int 0, .int 0, f13, f14, f15, .int 0, .int 0, .int 0, .int 1]))]) hP hD [0] [] rfl rfl (by decide +kernel) (by decide +kernel) hk1 hFc hP1 hD1
    generalize H1 = H at hP hS ⊢
    have hP : va_P (dC, dI) vwCl [(h0, .inr (11, [f0, f1, f2, f3, f4, f5, f6, f7, f8, .int 0, .int 0, .int 0, .int 0, f13, f14, f15, .int 0, .int 0, .int 0, .int 1]))] H := hP
    have hD : va_D A [(h0, .inr (11, [f0, f1, f2, f3, f4, f5, f6, f7, f8, .int 0, .int 0, .int 0, .int 0, f13, f14, f15, .int 0, .int 0, .int 0, .int 1]))] := hD
    have hw : r_4 = -1 := hw
    subst hw
    exact W.iret (v := (-1)) hx hb hr (fun t ht hW => ⟨⟨(-1), (), rfl, rfl, trivial⟩, hS.F ht⟩) hS.2.2 dX11_heard_16
def wq_X11_got_o : List Cond := []
def wq_X11_got : List Cond := .code yX11_got cX11_got 7 (some .int) :: (wq_X11_got_o ++ ((wsV RX11 162 RX11 yX11_whyNotHosts wq_X11_whyNotHosts) ++ ((wsV RX11 76 RX11 yX11_refuse wq_X11_refuse) ++ ([]))))
set_option maxRecDepth 20000 in
theorem gt_wq_X11_got : GoodIn lw_tbl wq_X11_got := goodIn_ca (goodIn_p (.code yX11_got cX11_got 7 (some .int) :: wq_X11_got_o) [1320] (by decide +kernel) (by decide +kernel)) (goodIn_app (goodIn_app (goodIn_of _ (by decide +kernel)) gt_wq_X11_whyNotHosts) (goodIn_app (goodIn_app (goodIn_of _ (by decide +kernel)) gt_wq_X11_refuse) (fun _ h => absurd h List.not_mem_nil)))
set_option maxRecDepth 20000 in
theorem wq_X11_got_g0 : GoodIn wq_X11_got (wsV RX11 162 RX11 yX11_whyNotHosts wq_X11_whyNotHosts) := goodIn_sub (fun w h => List.mem_cons_of_mem _ (List.mem_append_right _ (List.mem_append_left _ h))) (by decide +kernel)
set_option maxRecDepth 20000 in
theorem wq_X11_got_g1 : GoodIn wq_X11_got (wsV RX11 76 RX11 yX11_refuse wq_X11_refuse) := goodIn_sub (fun w h => List.mem_cons_of_mem _ (List.mem_append_right _ (List.mem_append_right _ (List.mem_append_left _ h)))) (by decide +kernel)
set_option maxHeartbeats 4000000 in
set_option maxRecDepth 100000 in
theorem k_X11_got (l : Launch) (dC : Nat → ClassId) (dI : Nat → Nat → Nat) (sz : Nat) (h0 : Nat) (f0 : Value) (f1 : Value) (f2 : Value) (f3 : Value) (f4 : Value) (f5 : Value) (f6 : Value) (f7 : Value) (f8 : Value) (f13 : Value) (f14 : Value) (f15 : Value) (k : Int32) (j : Int32) (a : Int32) (b : Int32) : Met l yX11_got wq_X11_got ({ frames := 10, cells := 0, slots := 0, locals := 1200 }) (va_Pc [.ref h0, .int k, .int j, .int a, .int b] (fun U => U.heap.size = sz ∧ va_P (dC, dI) vwCl [(h0, .inr (11, [f0, f1, f2, f3, f4, f5, f6, f7, f8, .int 0, .int 0, .int 0, .int 0, f13, f14, f15, .int 0, .int 0, .int 0, .int 0]))] U.heap ∧ va_K (dC, dI) vwCl [] U ∧ va_D (fun _ => True) [(h0, .inr (11, [f0, f1, f2, f3, f4, f5, f6, f7, f8, .int 0, .int 0, .int 0, .int 0, f13, f14, f15, .int 0, .int 0, .int 0, .int 0]))])) (va_Qi (fun (r : Int32) (_ : Unit) => r = -1) (fun (_ : Unit) (_ : State) => True) (va_A [(h0, .inr (11, [f0, f1, f2, f3, f4, f5, f6, f7, f8, .int 0, .int 0, .int 0, .int 0, f13, f14, f15, .int 0, .int 0, .int 0, .int 0]))] sz)) 0 0 (va_A [(h0, .inr (11, [f0, f1, f2, f3, f4, f5, f6, f7, f8, .int 0, .int 0, .int 0, .int 0, f13, f14, f15, .int 0, .int 0, .int 0, .int 0]))] sz) := by
  refine Met.ofW (cc := cX11_got) (maxL := 7) (ret := (some .int)) (by decide +kernel) rfl ?_
  intro p e s m args below meth c s₁ B hml hv
  obtain ⟨rfl, hsz, hP, hK, hD0⟩ := hv
  have hx := B.exec
  have hb := B.bytes
  have hr := B.returns
  have hts := atoms_spec (ws := wq_X11_got) B.pre
  have hown : s.vm.findClass RX11 = some m.cls := findClass_of_methodNamed B.named
  have hlocks := B.notSynchronized
  subst hsz
  have hD := hD0.self (sz := s.heap.size)
  generalize hAe : va_A [(h0, .inr (11, [f0, f1, f2, f3, f4, f5, f6, f7, f8, .int 0, .int 0, .int 0, .int 0, f13, f14, f15, .int 0, .int 0, .int 0, .int 0]))] s.heap.size = A at hD ⊢
  have hA : ∀ q : Nat, s.heap.size ≤ q → A q := fun q h => by rw [← hAe]; exact Or.inr h
  have hS : va_S A s.heap s.heap [] := va_S.rf
  have hP : va_P (dC, dI) vwCl [(h0, .inr (11, [f0, f1, f2, f3, f4, f5, f6, f7, f8, .int 0, .int 0, .int 0, .int 0, f13, f14, f15, .int 0, .int 0, .int 0, .int 0]))] s.heap := hP
  have hl := lv_entry ([.ref h0, .int k, .int j, .int a, .int b]) (n := 7) (Nat.le_of_ble_eq_true rfl)
  rw [lg_entry_eq]
  generalize (lg_sl ([.ref h0, .int k, .int j, .int a, .int b]) ++ List.replicate (7 - (lg_sl ([.ref h0, .int k, .int j, .int a, .int b])).length) Slot.unset).toArray = ls at hl ⊢
  have hl : lv_has ls 7 [(0, .ref h0), (1, .int k), (2, .int j), (3, .int a), (4, .int b)] := hl
  refine lv_aload_n hx hb dX11_got_0 rfl (lv_at hl 0 rfl) ?_
  refine lv_iload_n hx hb dX11_got_1 rfl (lv_at hl 1 rfl) ?_
  refine lv_iload_n hx hb dX11_got_2 rfl (lv_at hl 2 rfl) ?_
  have hPc := hP.sub (ws' := [(h0, .inr (11, [f0, f1, f2, f3, f4, f5, f6, f7, f8, .int 0, .int 0, .int 0, .int 0, f13, f14, f15, .int 0, .int 0, .int 0, .int 0]))]) [0] rfl
  have hDc := hD.sub (ws' := [(h0, .inr (11, [f0, f1, f2, f3, f4, f5, f6, f7, f8, .int 0, .int 0, .int 0, .int 0, f13, f14, f15, .int 0, .int 0, .int 0, .int 0]))]) [0] (by decide +kernel) rfl
  have hKc := hK.sub (tys' := []) [] rfl
  have hFc := va_free (wc := [(h0, .inr (11, [f0, f1, f2, f3, f4, f5, f6, f7, f8, .int 0, .int 0, .int 0, .int 0, f13, f14, f15, .int 0, .int 0, .int 0, .int 0]))]) hD hS hA [0] rfl
  have hr_2c : 0 + 0 ≤ 0 := by decide +kernel
  have hr_2s : 0 + 0 ≤ 0 := by decide +kernel
  refine va_calli (va_runV (As := [.int k, .int j]) (rest := []) ⟨hx, hb, hml, hown, hts⟩ (k_X11_whyNotHosts l dC dI s.heap.size h0 f0 f1 f2 f3 f4 f5 f6 f7 f8 (.int 0) (.int 0) (.int 0) f13 f14 f15 (.int 0) (.int 0) (.int 0) (.int 0) k j) (cwV 2 hts wq_X11_got_g0 rfl rfl rfl (by decide +kernel) ⟨Nat.le_of_ble_eq_true rfl, Nat.le_of_ble_eq_true rfl⟩) ⟨fun a U g mk q => by obtain ⟨q0, q1, qP, qK, qD⟩ := q; exact ⟨q0, q1, qP, va_K.moved (u := U) (U := U.calling g mk a) (Vm.Alike.refl U.vm) qK, qD⟩, va_recv hKc hPc (ci := 11) (q0 := 0) rfl rfl, fun U hU hW => ⟨rfl, by rw [hU], by rw [hU]; exact hPc, va_K.moved hW.alike hKc, hDc.weaken (fun _ _ _ _ => trivial)⟩⟩ rfl rfl hl.1 rfl (lv_room (Nat.le_of_ble_eq_true rfl)) dX11_got_3 ⟨hr_2c, hr_2s⟩) hS (fun q _ h => hFc q h) hFc (fun r_1 u t H1 locs ht hvm hw hB hz1 hk1 hS => ?_)
  obtain ⟨hP1, hK1, hD1⟩ := hB
  rw [ht] at hP1
  obtain ⟨hP, hD⟩ := va_join (wr := []) (w1 := [(h0, .inr (11, [f0, f1, f2, f3, f4, f5, f6, f7, f8, .int 0, .int 0, .int 0, .int 0, f13, f14, f15, .int 0, .int 0, .int 0, .int 0]))]) hP hD [0] [] rfl rfl (by decide +kernel) (by decide +kernel) hk1 hFc hP1 hD1
  generalize H1 = H at hP hS ⊢
  have hP : va_P (dC, dI) vwCl [(h0, .inr (11, [f0, f1, f2, f3, f4, f5, f6, f7, f8, .int 0, .int 0, .int 0, .int 0, f13, f14, f15, .int 0, .int 0, .int 0, .int 0]))] H := hP
  have hD : va_D A [(h0, .inr (11, [f0, f1, f2, f3, f4, f5, f6, f7, f8, .int 0, .int 0, .int 0, .int 0, f13, f14, f15, .int 0, .int 0, .int 0, .int 0]))] := hD
  have hw : r_1 = 1 := hw
  subst hw
  refine lv_istore (lv' := [(5, .int 1), (0, .ref h0), (1, .int k), (2, .int j), (3, .int a), (4, .int b)]) hx hb dX11_got_6 hl (by decide +kernel) rfl (fun ls hl => ?_)
  refine lv_iload hx hb dX11_got_8 (lv_at hl 0 rfl) ?_
  refine lv_if_eq (tgt := 20) hx hb dX11_got_10 (by decide +kernel) (fun c_3 => ?_) (fun c_3 => ?_)
  · exact absurd c_3 (by decide +kernel)
  · refine lv_aload_n hx hb dX11_got_13 rfl (lv_at hl 1 rfl) ?_
    refine lv_iload hx hb dX11_got_14 (lv_at hl 0 rfl) ?_
    have hPc := hP.sub (ws' := [(h0, .inr (11, [f0, f1, f2, f3, f4, f5, f6, f7, f8, .int 0, .int 0, .int 0, .int 0, f13, f14, f15, .int 0, .int 0, .int 0, .int 0]))]) [0] rfl
    have hDc := hD.sub (ws' := [(h0, .inr (11, [f0, f1, f2, f3, f4, f5, f6, f7, f8, .int 0, .int 0, .int 0, .int 0, f13, f14, f15, .int 0, .int 0, .int 0, .int 0]))]) [0] (by decide +kernel) rfl
    have hKc := hK.sub (tys' := []) [] rfl
    have hFc := va_free (wc := [(h0, .inr (11, [f0, f1, f2, f3, f4, f5, f6, f7, f8, .int 0, .int 0, .int 0, .int 0, f13, f14, f15, .int 0, .int 0, .int 0, .int 0]))]) hD hS hA [0] rfl
    have hr_5c : 0 + 0 ≤ 0 := by decide +kernel
    have hr_5s : 0 + 0 ≤ 0 := by decide +kernel
    refine va_calli (va_runV (As := [.int 1]) (rest := []) ⟨hx, hb, hml, hown, hts⟩ (k_X11_refuse l dC dI H.size h0 f0 f1 f2 f3 f4 f5 f6 f7 f8 (.int 0) (.int 0) (.int 0) (.int 0) f13 f14 f15 (.int 0) (.int 0) (.int 0) (.int 0) 1) (cwV 1 hts wq_X11_got_g1 rfl rfl rfl (by decide +kernel) ⟨Nat.le_of_ble_eq_true rfl, Nat.le_of_ble_eq_true rfl⟩) ⟨fun a U g mk q => by obtain ⟨q0, q1, qP, qK, qD⟩ := q; exact ⟨q0, q1, qP, va_K.moved (u := U) (U := U.calling g mk a) (Vm.Alike.refl U.vm) qK, qD⟩, va_recv hKc hPc (ci := 11) (q0 := 0) rfl rfl, fun U hU hW => ⟨rfl, by rw [hU], by rw [hU]; exact hPc, va_K.moved hW.alike hKc, hDc.weaken (fun _ _ _ _ => trivial)⟩⟩ rfl rfl hl.1 rfl (lv_room (Nat.le_of_ble_eq_true rfl)) dX11_got_16 ⟨hr_5c, hr_5s⟩) hS (fun q _ h => hFc q h) hFc (fun r_4 u t H1 locs ht hvm hw hB hz1 hk1 hS => ?_)
    obtain ⟨hP1, hK1, hD1⟩ := hB
    rw [ht] at hP1
    obtain ⟨hP, hD⟩ := va_join (wr := []) (w1 := [(h0, .inr (11, [f0, f1, f2, f3, f4, f5, f6, f7, f8, .int 0, .int 0, .int 0, .int 0, f13, f14, f15, .int 0, .int 0, .int 0, .int 1]))]) hP hD [0] [] rfl rfl (by decide +kernel) (by decide +kernel) hk1 hFc hP1 hD1
    generalize H1 = H at hP hS ⊢
    have hP : va_P (dC, dI) vwCl [(h0, .inr (11, [f0, f1, f2, f3, f4, f5, f6, f7, f8, .int 0, .int 0, .int 0, .int 0, f13, f14, f15, .int 0, .int 0, .int 0, .int 1]))] H := hP
    have hD : va_D A [(h0, .inr (11, [f0, f1, f2, f3, f4, f5, f6, f7, f8, .int 0, .int 0, .int 0, .int 0, f13, f14, f15, .int 0, .int 0, .int 0, .int 1]))] := hD
    have hw : r_4 = -1 := hw
    subst hw
    exact W.iret (v := (-1)) hx hb hr (fun t ht hW => ⟨⟨(-1), (), rfl, rfl, trivial⟩, hS.F ht⟩) hS.2.2 dX11_got_19
def wq_X11_sent_o : List Cond := []
def wq_X11_sent : List Cond := .code yX11_sent cX11_sent 6 (some .int) :: (wq_X11_sent_o ++ ((wsV RX11 162 RX11 yX11_whyNotHosts wq_X11_whyNotHosts) ++ ((wsV RX11 76 RX11 yX11_refuse wq_X11_refuse) ++ ([]))))
set_option maxRecDepth 20000 in
theorem gt_wq_X11_sent : GoodIn lw_tbl wq_X11_sent := goodIn_ca (goodIn_p (.code yX11_sent cX11_sent 6 (some .int) :: wq_X11_sent_o) [1324] (by decide +kernel) (by decide +kernel)) (goodIn_app (goodIn_app (goodIn_of _ (by decide +kernel)) gt_wq_X11_whyNotHosts) (goodIn_app (goodIn_app (goodIn_of _ (by decide +kernel)) gt_wq_X11_refuse) (fun _ h => absurd h List.not_mem_nil)))
set_option maxRecDepth 20000 in
theorem wq_X11_sent_g0 : GoodIn wq_X11_sent (wsV RX11 162 RX11 yX11_whyNotHosts wq_X11_whyNotHosts) := goodIn_sub (fun w h => List.mem_cons_of_mem _ (List.mem_append_right _ (List.mem_append_left _ h))) (by decide +kernel)
set_option maxRecDepth 20000 in
theorem wq_X11_sent_g1 : GoodIn wq_X11_sent (wsV RX11 76 RX11 yX11_refuse wq_X11_refuse) := goodIn_sub (fun w h => List.mem_cons_of_mem _ (List.mem_append_right _ (List.mem_append_right _ (List.mem_append_left _ h)))) (by decide +kernel)
set_option maxHeartbeats 4000000 in
set_option maxRecDepth 100000 in
theorem k_X11_sent (l : Launch) (dC : Nat → ClassId) (dI : Nat → Nat → Nat) (sz : Nat) (h0 : Nat) (f0 : Value) (f1 : Value) (f2 : Value) (f3 : Value) (f4 : Value) (f5 : Value) (f6 : Value) (f7 : Value) (f8 : Value) (f13 : Value) (f14 : Value) (f15 : Value) (k : Int32) (j : Int32) (a : Int32) : Met l yX11_sent wq_X11_sent ({ frames := 10, cells := 0, slots := 0, locals := 1200 }) (va_Pc [.ref h0, .int k, .int j, .int a] (fun U => U.heap.size = sz ∧ va_P (dC, dI) vwCl [(h0, .inr (11, [f0, f1, f2, f3, f4, f5, f6, f7, f8, .int 0, .int 0, .int 0, .int 0, f13, f14, f15, .int 0, .int 0, .int 0, .int 0]))] U.heap ∧ va_K (dC, dI) vwCl [] U ∧ va_D (fun _ => True) [(h0, .inr (11, [f0, f1, f2, f3, f4, f5, f6, f7, f8, .int 0, .int 0, .int 0, .int 0, f13, f14, f15, .int 0, .int 0, .int 0, .int 0]))])) (va_Qi (fun (r : Int32) (_ : Unit) => r = -1) (fun (_ : Unit) (_ : State) => True) (va_A [(h0, .inr (11, [f0, f1, f2, f3, f4, f5, f6, f7, f8, .int 0, .int 0, .int 0, .int 0, f13, f14, f15, .int 0, .int 0, .int 0, .int 0]))] sz)) 0 0 (va_A [(h0, .inr (11, [f0, f1, f2, f3, f4, f5, f6, f7, f8, .int 0, .int 0, .int 0, .int 0, f13, f14, f15, .int 0, .int 0, .int 0, .int 0]))] sz) := by
  refine Met.ofW (cc := cX11_sent) (maxL := 6) (ret := (some .int)) (by decide +kernel) rfl ?_
  intro p e s m args below meth c s₁ B hml hv
  obtain ⟨rfl, hsz, hP, hK, hD0⟩ := hv
  have hx := B.exec
  have hb := B.bytes
  have hr := B.returns
  have hts := atoms_spec (ws := wq_X11_sent) B.pre
  have hown : s.vm.findClass RX11 = some m.cls := findClass_of_methodNamed B.named
  have hlocks := B.notSynchronized
  subst hsz
  have hD := hD0.self (sz := s.heap.size)
  generalize hAe : va_A [(h0, .inr (11, [f0, f1, f2, f3, f4, f5, f6, f7, f8, .int 0, .int 0, .int 0, .int 0, f13, f14, f15, .int 0, .int 0, .int 0, .int 0]))] s.heap.size = A at hD ⊢
  have hA : ∀ q : Nat, s.heap.size ≤ q → A q := fun q h => by rw [← hAe]; exact Or.inr h
  have hS : va_S A s.heap s.heap [] := va_S.rf
  have hP : va_P (dC, dI) vwCl [(h0, .inr (11, [f0, f1, f2, f3, f4, f5, f6, f7, f8, .int 0, .int 0, .int 0, .int 0, f13, f14, f15, .int 0, .int 0, .int 0, .int 0]))] s.heap := hP
  have hl := lv_entry ([.ref h0, .int k, .int j, .int a]) (n := 6) (Nat.le_of_ble_eq_true rfl)
  rw [lg_entry_eq]
  generalize (lg_sl ([.ref h0, .int k, .int j, .int a]) ++ List.replicate (6 - (lg_sl ([.ref h0, .int k, .int j, .int a])).length) Slot.unset).toArray = ls at hl ⊢
  have hl : lv_has ls 6 [(0, .ref h0), (1, .int k), (2, .int j), (3, .int a)] := hl
  refine lv_aload_n hx hb dX11_sent_0 rfl (lv_at hl 0 rfl) ?_
  refine lv_iload_n hx hb dX11_sent_1 rfl (lv_at hl 1 rfl) ?_
  refine lv_iload_n hx hb dX11_sent_2 rfl (lv_at hl 2 rfl) ?_
  have hPc := hP.sub (ws' := [(h0, .inr (11, [f0, f1, f2, f3, f4, f5, f6, f7, f8, .int 0, .int 0, .int 0, .int 0, f13, f14, f15, .int 0, .int 0, .int 0, .int 0]))]) [0] rfl
  have hDc := hD.sub (ws' := [(h0, .inr (11, [f0, f1, f2, f3, f4, f5, f6, f7, f8, .int 0, .int 0, .int 0, .int 0, f13, f14, f15, .int 0, .int 0, .int 0, .int 0]))]) [0] (by decide +kernel) rfl
  have hKc := hK.sub (tys' := []) [] rfl
  have hFc := va_free (wc := [(h0, .inr (11, [f0, f1, f2, f3, f4, f5, f6, f7, f8, .int 0, .int 0, .int 0, .int 0, f13, f14, f15, .int 0, .int 0, .int 0, .int 0]))]) hD hS hA [0] rfl
  have hr_2c : 0 + 0 ≤ 0 := by decide +kernel
  have hr_2s : 0 + 0 ≤ 0 := by decide +kernel
  refine va_calli (va_runV (As := [.int k, .int j]) (rest := []) ⟨hx, hb, hml, hown, hts⟩ (k_X11_whyNotHosts l dC dI s.heap.size h0 f0 f1 f2 f3 f4 f5 f6 f7 f8 (.int 0) (.int 0) (.int 0) f13 f14 f15 (.int 0) (.int 0) (.int 0) (.int 0) k j) (cwV 2 hts wq_X11_sent_g0 rfl rfl rfl (by decide +kernel) ⟨Nat.le_of_ble_eq_true rfl, Nat.le_of_ble_eq_true rfl⟩) ⟨fun a U g mk q => by obtain ⟨q0, q1, qP, qK, qD⟩ := q; exact ⟨q0, q1, qP, va_K.moved (u := U) (U := U.calling g mk a) (Vm.Alike.refl U.vm) qK, qD⟩, va_recv hKc hPc (ci := 11) (q0 := 0) rfl rfl, fun U hU hW => ⟨rfl, by rw [hU], by rw [hU]; exact hPc, va_K.moved hW.alike hKc, hDc.weaken (fun _ _ _ _ => trivial)⟩⟩ rfl rfl hl.1 rfl (lv_room (Nat.le_of_ble_eq_true rfl)) dX11_sent_3 ⟨hr_2c, hr_2s⟩) hS (fun q _ h => hFc q h) hFc (fun r_1 u t H1 locs ht hvm hw hB hz1 hk1 hS => ?_)
  obtain ⟨hP1, hK1, hD1⟩ := hB
  rw [ht] at hP1
  obtain ⟨hP, hD⟩ := va_join (wr := []) (w1 := [(h0, .inr (11, [f0, f1, f2, f3, f4, f5, f6, f7, f8, .int 0, .int 0, .int 0, .int 0, f13, f14, f15, .int 0, .int 0, .int 0, .int 0]))]) hP hD [0] [] rfl rfl (by decide +kernel) (by decide +kernel) hk1 hFc hP1 hD1
  generalize H1 = H at hP hS ⊢
  have hP : va_P (dC, dI) vwCl [(h0, .inr (11, [f0, f1, f2, f3, f4, f5, f6, f7, f8, .int 0, .int 0, .int 0, .int 0, f13, f14, f15, .int 0, .int 0, .int 0, .int 0]))] H := hP
  have hD : va_D A [(h0, .inr (11, [f0, f1, f2, f3, f4, f5, f6, f7, f8, .int 0, .int 0, .int 0, .int 0, f13, f14, f15, .int 0, .int 0, .int 0, .int 0]))] := hD
  have hw : r_1 = 1 := hw
  subst hw
  refine lv_istore (lv' := [(4, .int 1), (0, .ref h0), (1, .int k), (2, .int j), (3, .int a)]) hx hb dX11_sent_6 hl (by decide +kernel) rfl (fun ls hl => ?_)
  refine lv_iload hx hb dX11_sent_8 (lv_at hl 0 rfl) ?_
  refine lv_if_eq (tgt := 20) hx hb dX11_sent_10 (by decide +kernel) (fun c_3 => ?_) (fun c_3 => ?_)
  · exact absurd c_3 (by decide +kernel)
  · refine lv_aload_n hx hb dX11_sent_13 rfl (lv_at hl 1 rfl) ?_
    refine lv_iload hx hb dX11_sent_14 (lv_at hl 0 rfl) ?_
    have hPc := hP.sub (ws' := [(h0, .inr (11, [f0, f1, f2, f3, f4, f5, f6, f7, f8, .int 0, .int 0, .int 0, .int 0, f13, f14, f15, .int 0, .int 0, .int 0, .int 0]))]) [0] rfl
    have hDc := hD.sub (ws' := [(h0, .inr (11, [f0, f1, f2, f3, f4, f5, f6, f7, f8, .int 0, .int 0, .int 0, .int 0, f13, f14, f15, .int 0, .int 0, .int 0, .int 0]))]) [0] (by decide +kernel) rfl
    have hKc := hK.sub (tys' := []) [] rfl
    have hFc := va_free (wc := [(h0, .inr (11, [f0, f1, f2, f3, f4, f5, f6, f7, f8, .int 0, .int 0, .int 0, .int 0, f13, f14, f15, .int 0, .int 0, .int 0, .int 0]))]) hD hS hA [0] rfl
    have hr_5c : 0 + 0 ≤ 0 := by decide +kernel
    have hr_5s : 0 + 0 ≤ 0 := by decide +kernel
    refine va_calli (va_runV (As := [.int 1]) (rest := []) ⟨hx, hb, hml, hown, hts⟩ (k_X11_refuse l dC dI H.size h0 f0 f1 f2 f3 f4 f5 f6 f7 f8 (.int 0) (.int 0) (.int 0) (.int 0) f13 f14 f15 (.int 0) (.int 0) (.int 0) (.int 0) 1) (cwV 1 hts wq_X11_sent_g1 rfl rfl rfl (by decide +kernel) ⟨Nat.le_of_ble_eq_true rfl, Nat.le_of_ble_eq_true rfl⟩) ⟨fun a U g mk q => by obtain ⟨q0, q1, qP, qK, qD⟩ := q; exact ⟨q0, q1, qP, va_K.moved (u := U) (U := U.calling g mk a) (Vm.Alike.refl U.vm) qK, qD⟩, va_recv hKc hPc (ci := 11) (q0 := 0) rfl rfl, fun U hU hW => ⟨rfl, by rw [hU], by rw [hU]; exact hPc, va_K.moved hW.alike hKc, hDc.weaken (fun _ _ _ _ => trivial)⟩⟩ rfl rfl hl.1 rfl (lv_room (Nat.le_of_ble_eq_true rfl)) dX11_sent_16 ⟨hr_5c, hr_5s⟩) hS (fun q _ h => hFc q h) hFc (fun r_4 u t H1 locs ht hvm hw hB hz1 hk1 hS => ?_)
    obtain ⟨hP1, hK1, hD1⟩ := hB
    rw [ht] at hP1
    obtain ⟨hP, hD⟩ := va_join (wr := []) (w1 := [(h0, .inr (11, [f0, f1, f2, f3, f4, f5, f6, f7, f8, .int 0, .int 0, .int 0, .int 0, f13, f14, f15, .int 0, .int 0, .int 0, .int 1]))]) hP hD [0] [] rfl rfl (by decide +kernel) (by decide +kernel) hk1 hFc hP1 hD1
    generalize H1 = H at hP hS ⊢
    have hP : va_P (dC, dI) vwCl [(h0, .inr (11, [f0, f1, f2, f3, f4, f5, f6, f7, f8, .int 0, .int 0, .int 0, .int 0, f13, f14, f15, .int 0, .int 0, .int 0, .int 1]))] H := hP
    have hD : va_D A [(h0, .inr (11, [f0, f1, f2, f3, f4, f5, f6, f7, f8, .int 0, .int 0, .int 0, .int 0, f13, f14, f15, .int 0, .int 0, .int 0, .int 1]))] := hD
    have hw : r_4 = -1 := hw
    subst hw
    exact W.iret (v := (-1)) hx hb hr (fun t ht hW => ⟨⟨(-1), (), rfl, rfl, trivial⟩, hS.F ht⟩) hS.2.2 dX11_sent_19
def wq_X11_mtu_o : List Cond := []
def wq_X11_mtu : List Cond := .code yX11_mtu cX11_mtu 7 (some .int) :: (wq_X11_mtu_o ++ ((wsV RX11 100 RX11 yX11_nodeAt wq_X11_nodeAt) ++ ((wsV RX11 76 RX11 yX11_refuse wq_X11_refuse) ++ ([]))))
set_option maxRecDepth 20000 in
theorem gt_wq_X11_mtu : GoodIn lw_tbl wq_X11_mtu := goodIn_ca (goodIn_p (.code yX11_mtu cX11_mtu 7 (some .int) :: wq_X11_mtu_o) [1328] (by decide +kernel) (by decide +kernel)) (goodIn_app (goodIn_app (goodIn_of _ (by decide +kernel)) gt_wq_X11_nodeAt) (goodIn_app (goodIn_app (goodIn_of _ (by decide +kernel)) gt_wq_X11_refuse) (fun _ h => absurd h List.not_mem_nil)))
set_option maxRecDepth 20000 in
theorem wq_X11_mtu_g0 : GoodIn wq_X11_mtu (wsV RX11 100 RX11 yX11_nodeAt wq_X11_nodeAt) := goodIn_sub (fun w h => List.mem_cons_of_mem _ (List.mem_append_right _ (List.mem_append_left _ h))) (by decide +kernel)
set_option maxRecDepth 20000 in
theorem wq_X11_mtu_g1 : GoodIn wq_X11_mtu (wsV RX11 76 RX11 yX11_refuse wq_X11_refuse) := goodIn_sub (fun w h => List.mem_cons_of_mem _ (List.mem_append_right _ (List.mem_append_right _ (List.mem_append_left _ h)))) (by decide +kernel)
set_option maxHeartbeats 4000000 in
set_option maxRecDepth 100000 in
theorem k_X11_mtu (l : Launch) (dC : Nat → ClassId) (dI : Nat → Nat → Nat) (sz : Nat) (h0 : Nat) (f0 : Value) (f1 : Value) (f2 : Value) (f3 : Value) (f4 : Value) (f5 : Value) (f6 : Value) (f7 : Value) (f8 : Value) (f13 : Value) (f14 : Value) (f15 : Value) (k : Int32) (xm : Int64) (xd : Int64) : Met l yX11_mtu wq_X11_mtu ({ frames := 10, cells := 0, slots := 0, locals := 1200 }) (va_Pc [.ref h0, .int k, .long xm, .long xd] (fun U => U.heap.size = sz ∧ va_P (dC, dI) vwCl [(h0, .inr (11, [f0, f1, f2, f3, f4, f5, f6, f7, f8, .int 0, .int 0, .int 0, .int 0, f13, f14, f15, .int 0, .int 0, .int 0, .int 0]))] U.heap ∧ va_K (dC, dI) vwCl [] U ∧ va_D (fun _ => True) [(h0, .inr (11, [f0, f1, f2, f3, f4, f5, f6, f7, f8, .int 0, .int 0, .int 0, .int 0, f13, f14, f15, .int 0, .int 0, .int 0, .int 0]))])) (va_Qi (fun (r : Int32) (_ : Unit) => r = -1) (fun (_ : Unit) (_ : State) => True) (va_A [(h0, .inr (11, [f0, f1, f2, f3, f4, f5, f6, f7, f8, .int 0, .int 0, .int 0, .int 0, f13, f14, f15, .int 0, .int 0, .int 0, .int 0]))] sz)) 0 0 (va_A [(h0, .inr (11, [f0, f1, f2, f3, f4, f5, f6, f7, f8, .int 0, .int 0, .int 0, .int 0, f13, f14, f15, .int 0, .int 0, .int 0, .int 0]))] sz) := by
  refine Met.ofW (cc := cX11_mtu) (maxL := 7) (ret := (some .int)) (by decide +kernel) rfl ?_
  intro p e s m args below meth c s₁ B hml hv
  obtain ⟨rfl, hsz, hP, hK, hD0⟩ := hv
  have hx := B.exec
  have hb := B.bytes
  have hr := B.returns
  have hts := atoms_spec (ws := wq_X11_mtu) B.pre
  have hown : s.vm.findClass RX11 = some m.cls := findClass_of_methodNamed B.named
  have hlocks := B.notSynchronized
  subst hsz
  have hD := hD0.self (sz := s.heap.size)
  generalize hAe : va_A [(h0, .inr (11, [f0, f1, f2, f3, f4, f5, f6, f7, f8, .int 0, .int 0, .int 0, .int 0, f13, f14, f15, .int 0, .int 0, .int 0, .int 0]))] s.heap.size = A at hD ⊢
  have hA : ∀ q : Nat, s.heap.size ≤ q → A q := fun q h => by rw [← hAe]; exact Or.inr h
  have hS : va_S A s.heap s.heap [] := va_S.rf
  have hP : va_P (dC, dI) vwCl [(h0, .inr (11, [f0, f1, f2, f3, f4, f5, f6, f7, f8, .int 0, .int 0, .int 0, .int 0, f13, f14, f15, .int 0, .int 0, .int 0, .int 0]))] s.heap := hP
  have hl := lv_entry ([.ref h0, .int k, .long xm, .long xd]) (n := 7) (Nat.le_of_ble_eq_true rfl)
  rw [lg_entry_eq]
  generalize (lg_sl ([.ref h0, .int k, .long xm, .long xd]) ++ List.replicate (7 - (lg_sl ([.ref h0, .int k, .long xm, .long xd])).length) Slot.unset).toArray = ls at hl ⊢
  have hl : lv_has ls 7 [(0, .ref h0), (1, .int k), (2, .long xm), (4, .long xd)] := hl
  refine lv_aload_n hx hb dX11_mtu_0 rfl (lv_at hl 0 rfl) ?_
  refine lv_iload_n hx hb dX11_mtu_1 rfl (lv_at hl 1 rfl) ?_
  have hPc := hP.sub (ws' := [(h0, .inr (11, [f0, f1, f2, f3, f4, f5, f6, f7, f8, .int 0, .int 0, .int 0, .int 0, f13, f14, f15, .int 0, .int 0, .int 0, .int 0]))]) [0] rfl
  have hDc := hD.sub (ws' := [(h0, .inr (11, [f0, f1, f2, f3, f4, f5, f6, f7, f8, .int 0, .int 0, .int 0, .int 0, f13, f14, f15, .int 0, .int 0, .int 0, .int 0]))]) [0] (by decide +kernel) rfl
  have hKc := hK.sub (tys' := []) [] rfl
  have hFc := va_free (wc := [(h0, .inr (11, [f0, f1, f2, f3, f4, f5, f6, f7, f8, .int 0, .int 0, .int 0, .int 0, f13, f14, f15, .int 0, .int 0, .int 0, .int 0]))]) hD hS hA [0] rfl
  have hr_2c : 0 + 0 ≤ 0 := by decide +kernel
  have hr_2s : 0 + 0 ≤ 0 := by decide +kernel
  refine va_callq (va_runV (As := [.int k]) (rest := []) ⟨hx, hb, hml, hown, hts⟩ (k_X11_nodeAt l dC dI s.heap.size h0 f0 f1 f2 f3 f4 f5 f6 f7 f8 (.int 0) (.int 0) (.int 0) f13 f14 f15 (.int 0) (.int 0) (.int 0) (.int 0) k) (cwV 1 hts wq_X11_mtu_g0 rfl rfl rfl (by decide +kernel) ⟨Nat.le_of_ble_eq_true rfl, Nat.le_of_ble_eq_true rfl⟩) ⟨fun a U g mk q => by obtain ⟨q0, q1, qP, qK, qD⟩ := q; exact ⟨q0, q1, qP, va_K.moved (u := U) (U := U.calling g mk a) (Vm.Alike.refl U.vm) qK, qD⟩, va_recv hKc hPc (ci := 11) (q0 := 0) rfl rfl, fun U hU hW => ⟨rfl, by rw [hU], by rw [hU]; exact hPc, va_K.moved hW.alike hKc, hDc.weaken (fun _ _ _ _ => trivial)⟩⟩ rfl rfl hl.1 rfl (lv_room (Nat.le_of_ble_eq_true rfl)) dX11_mtu_2 ⟨hr_2c, hr_2s⟩) hS (fun q _ h => hFc q h) hFc (fun r_1 u t H1 locs ht hvm hw hB hz1 hk1 hS => ?_)
  obtain ⟨hP1, hK1, hD1⟩ := hB
  rw [ht] at hP1
  obtain ⟨hP, hD⟩ := va_join (wr := []) (w1 := [(h0, .inr (11, [f0, f1, f2, f3, f4, f5, f6, f7, f8, .int 0, .int 0, .int 0, .int 0, f13, f14, f15, .int 0, .int 0, .int 0, .int 0]))]) hP hD [0] [] rfl rfl (by decide +kernel) (by decide +kernel) hk1 hFc hP1 hD1
  generalize H1 = H at hP hS ⊢
  have hP : va_P (dC, dI) vwCl [(h0, .inr (11, [f0, f1, f2, f3, f4, f5, f6, f7, f8, .int 0, .int 0, .int 0, .int 0, f13, f14, f15, .int 0, .int 0, .int 0, .int 0]))] H := hP
  have hD : va_D A [(h0, .inr (11, [f0, f1, f2, f3, f4, f5, f6, f7, f8, .int 0, .int 0, .int 0, .int 0, f13, f14, f15, .int 0, .int 0, .int 0, .int 0]))] := hD
  have hw : r_1 = none := hw
  subst hw
  refine W.eq (g2 := F0 m 5 ls [.null]) rfl ?_
  refine lv_astoreN (lv' := [(6, .null), (0, .ref h0), (1, .int k), (2, .long xm), (4, .long xd)]) hx hb dX11_mtu_5 hl (by decide +kernel) rfl (fun ls hl => ?_)
  refine lv_aloadN hx hb dX11_mtu_7 (lv_at hl 0 rfl) ?_
  refine lv_ifnonnullN hx hb dX11_mtu_9 ?_
  refine lv_aload_n hx hb dX11_mtu_12 rfl (lv_at hl 1 rfl) ?_
  refine lv_iconst (v := 1) hx hb dX11_mtu_13 (by decide +kernel) ?_
  have hPc := hP.sub (ws' := [(h0, .inr (11, [f0, f1, f2, f3, f4, f5, f6, f7, f8, .int 0, .int 0, .int 0, .int 0, f13, f14, f15, .int 0, .int 0, .int 0, .int 0]))]) [0] rfl
  have hDc := hD.sub (ws' := [(h0, .inr (11, [f0, f1, f2, f3, f4, f5, f6, f7, f8, .int 0, .int 0, .int 0, .int 0, f13, f14, f15, .int 0, .int 0, .int 0, .int 0]))]) [0] (by decide +kernel) rfl
  have hKc := hK.sub (tys' := []) [] rfl
  have hFc := va_free (wc := [(h0, .inr (11, [f0, f1, f2, f3, f4, f5, f6, f7, f8, .int 0, .int 0, .int 0, .int 0, f13, f14, f15, .int 0, .int 0, .int 0, .int 0]))]) hD hS hA [0] rfl
  have hr_4c : 0 + 0 ≤ 0 := by decide +kernel
  have hr_4s : 0 + 0 ≤ 0 := by decide +kernel
  refine va_calli (va_runV (As := [.int 1]) (rest := []) ⟨hx, hb, hml, hown, hts⟩ (k_X11_refuse l dC dI H.size h0 f0 f1 f2 f3 f4 f5 f6 f7 f8 (.int 0) (.int 0) (.int 0) (.int 0) f13 f14 f15 (.int 0) (.int 0) (.int 0) (.int 0) 1) (cwV 1 hts wq_X11_mtu_g1 rfl rfl rfl (by decide +kernel) ⟨Nat.le_of_ble_eq_true rfl, Nat.le_of_ble_eq_true rfl⟩) ⟨fun a U g mk q => by obtain ⟨q0, q1, qP, qK, qD⟩ := q; exact ⟨q0, q1, qP, va_K.moved (u := U) (U := U.calling g mk a) (Vm.Alike.refl U.vm) qK, qD⟩, va_recv hKc hPc (ci := 11) (q0 := 0) rfl rfl, fun U hU hW => ⟨rfl, by rw [hU], by rw [hU]; exact hPc, va_K.moved hW.alike hKc, hDc.weaken (fun _ _ _ _ => trivial)⟩⟩ rfl rfl hl.1 rfl (lv_room (Nat.le_of_ble_eq_true rfl)) dX11_mtu_14 ⟨hr_4c, hr_4s⟩) hS (fun q _ h => hFc q h) hFc (fun r_3 u t H1 locs ht hvm hw hB hz1 hk1 hS => ?_)
  obtain ⟨hP1, hK1, hD1⟩ := hB
  rw [ht] at hP1
  obtain ⟨hP, hD⟩ := va_join (wr := []) (w1 := [(h0, .inr (11, [f0, f1, f2, f3, f4, f5, f6, f7, f8, .int 0, .int 0, .int 0, .int 0, f13, f14, f15, .int 0, .int 0, .int 0, .int 1]))]) hP hD [0] [] rfl rfl (by decide +kernel) (by decide +kernel) hk1 hFc hP1 hD1
  generalize H1 = H at hP hS ⊢
  have hP : va_P (dC, dI) vwCl [(h0, .inr (11, [f0, f1, f2, f3, f4, f5, f6, f7, f8, .int 0, .int 0, .int 0, .int 0, f13, f14, f15, .int 0, .int 0, .int 0, .int 1]))] H := hP
  have hD : va_D A [(h0, .inr (11, [f0, f1, f2, f3, f4, f5, f6, f7, f8, .int 0, .int 0, .int 0, .int 0, f13, f14, f15, .int 0, .int 0, .int 0, .int 1]))] := hD
  have hw : r_3 = -1 := hw
  subst hw
  exact W.iret (v := (-1)) hx hb hr (fun t ht hW => ⟨⟨(-1), (), rfl, rfl, trivial⟩, hS.F ht⟩) hS.2.2 dX11_mtu_17
def wq_X11_count_o : List Cond := []
def wq_X11_count : List Cond := .code yX11_count cX11_count 4 (some .int) :: (wq_X11_count_o ++ ((wsV RX11 100 RX11 yX11_nodeAt wq_X11_nodeAt) ++ ((wsV RX11 76 RX11 yX11_refuse wq_X11_refuse) ++ ([]))))
set_option maxRecDepth 20000 in
theorem gt_wq_X11_count : GoodIn lw_tbl wq_X11_count := goodIn_ca (goodIn_p (.code yX11_count cX11_count 4 (some .int) :: wq_X11_count_o) [1332] (by decide +kernel) (by decide +kernel)) (goodIn_app (goodIn_app (goodIn_of _ (by decide +kernel)) gt_wq_X11_nodeAt) (goodIn_app (goodIn_app (goodIn_of _ (by decide +kernel)) gt_wq_X11_refuse) (fun _ h => absurd h List.not_mem_nil)))
set_option maxRecDepth 20000 in
theorem wq_X11_count_g0 : GoodIn wq_X11_count (wsV RX11 100 RX11 yX11_nodeAt wq_X11_nodeAt) := goodIn_sub (fun w h => List.mem_cons_of_mem _ (List.mem_append_right _ (List.mem_append_left _ h))) (by decide +kernel)
set_option maxRecDepth 20000 in
theorem wq_X11_count_g1 : GoodIn wq_X11_count (wsV RX11 76 RX11 yX11_refuse wq_X11_refuse) := goodIn_sub (fun w h => List.mem_cons_of_mem _ (List.mem_append_right _ (List.mem_append_right _ (List.mem_append_left _ h)))) (by decide +kernel)
set_option maxHeartbeats 4000000 in
set_option maxRecDepth 100000 in
theorem k_X11_count (l : Launch) (dC : Nat → ClassId) (dI : Nat → Nat → Nat) (sz : Nat) (h0 : Nat) (f0 : Value) (f1 : Value) (f2 : Value) (f3 : Value) (f4 : Value) (f5 : Value) (f6 : Value) (f7 : Value) (f8 : Value) (f13 : Value) (f14 : Value) (f15 : Value) (k : Int32) (j : Int32) : Met l yX11_count wq_X11_count ({ frames := 10, cells := 0, slots := 0, locals := 1200 }) (va_Pc [.ref h0, .int k, .int j] (fun U => U.heap.size = sz ∧ va_P (dC, dI) vwCl [(h0, .inr (11, [f0, f1, f2, f3, f4, f5, f6, f7, f8, .int 0, .int 0, .int 0, .int 0, f13, f14, f15, .int 0, .int 0, .int 0, .int 0]))] U.heap ∧ va_K (dC, dI) vwCl [] U ∧ va_D (fun _ => True) [(h0, .inr (11, [f0, f1, f2, f3, f4, f5, f6, f7, f8, .int 0, .int 0, .int 0, .int 0, f13, f14, f15, .int 0, .int 0, .int 0, .int 0]))])) (va_Qi (fun (r : Int32) (_ : Unit) => r = -1) (fun (_ : Unit) (_ : State) => True) (va_A [(h0, .inr (11, [f0, f1, f2, f3, f4, f5, f6, f7, f8, .int 0, .int 0, .int 0, .int 0, f13, f14, f15, .int 0, .int 0, .int 0, .int 0]))] sz)) 0 0 (va_A [(h0, .inr (11, [f0, f1, f2, f3, f4, f5, f6, f7, f8, .int 0, .int 0, .int 0, .int 0, f13, f14, f15, .int 0, .int 0, .int 0, .int 0]))] sz) := by
  refine Met.ofW (cc := cX11_count) (maxL := 4) (ret := (some .int)) (by decide +kernel) rfl ?_
  intro p e s m args below meth c s₁ B hml hv
  obtain ⟨rfl, hsz, hP, hK, hD0⟩ := hv
  have hx := B.exec
  have hb := B.bytes
  have hr := B.returns
  have hts := atoms_spec (ws := wq_X11_count) B.pre
  have hown : s.vm.findClass RX11 = some m.cls := findClass_of_methodNamed B.named
  have hlocks := B.notSynchronized
  subst hsz
  have hD := hD0.self (sz := s.heap.size)
  generalize hAe : va_A [(h0, .inr (11, [f0, f1, f2, f3, f4, f5, f6, f7, f8, .int 0, .int 0, .int 0, .int 0, f13, f14, f15, .int 0, .int 0, .int 0, .int 0]))] s.heap.size = A at hD ⊢
  have hA : ∀ q : Nat, s.heap.size ≤ q → A q := fun q h => by rw [← hAe]; exact Or.inr h
  have hS : va_S A s.heap s.heap [] := va_S.rf
  have hP : va_P (dC, dI) vwCl [(h0, .inr (11, [f0, f1, f2, f3, f4, f5, f6, f7, f8, .int 0, .int 0, .int 0, .int 0, f13, f14, f15, .int 0, .int 0, .int 0, .int 0]))] s.heap := hP
  have hl := lv_entry ([.ref h0, .int k, .int j]) (n := 4) (Nat.le_of_ble_eq_true rfl)
  rw [lg_entry_eq]
  generalize (lg_sl ([.ref h0, .int k, .int j]) ++ List.replicate (4 - (lg_sl ([.ref h0, .int k, .int j])).length) Slot.unset).toArray = ls at hl ⊢
  have hl : lv_has ls 4 [(0, .ref h0), (1, .int k), (2, .int j)] := hl
  refine lv_aload_n hx hb dX11_count_0 rfl (lv_at hl 0 rfl) ?_
  refine lv_iload_n hx hb dX11_count_1 rfl (lv_at hl 1 rfl) ?_
  have hPc := hP.sub (ws' := [(h0, .inr (11, [f0, f1, f2, f3, f4, f5, f6, f7, f8, .int 0, .int 0, .int 0, .int 0, f13, f14, f15, .int 0, .int 0, .int 0, .int 0]))]) [0] rfl
  have hDc := hD.sub (ws' := [(h0, .inr (11, [f0, f1, f2, f3, f4, f5, f6, f7, f8, .int 0, .int 0, .int 0, .int 0, f13, f14, f15, .int 0, .int 0, .int 0, .int 0]))]) [0] (by decide +kernel) rfl
  have hKc := hK.sub (tys' := []) [] rfl
  have hFc := va_free (wc := [(h0, .inr (11, [f0, f1, f2, f3, f4, f5, f6, f7, f8, .int 0, .int 0, .int 0, .int 0, f13, f14, f15, .int 0, .int 0, .int 0, .int 0]))]) hD hS hA [0] rfl
  have hr_2c : 0 + 0 ≤ 0 := by decide +kernel
  have hr_2s : 0 + 0 ≤ 0 := by decide +kernel
  refine va_callq (va_runV (As := [.int k]) (rest := []) ⟨hx, hb, hml, hown, hts⟩ (k_X11_nodeAt l dC dI s.heap.size h0 f0 f1 f2 f3 f4 f5 f6 f7 f8 (.int 0) (.int 0) (.int 0) f13 f14 f15 (.int 0) (.int 0) (.int 0) (.int 0) k) (cwV 1 hts wq_X11_count_g0 rfl rfl rfl (by decide +kernel) ⟨Nat.le_of_ble_eq_true rfl, Nat.le_of_ble_eq_true rfl⟩) ⟨fun a U g mk q => by obtain ⟨q0, q1, qP, qK, qD⟩ := q; exact ⟨q0, q1, qP, va_K.moved (u := U) (U := U.calling g mk a) (Vm.Alike.refl U.vm) qK, qD⟩, va_recv hKc hPc (ci := 11) (q0 := 0) rfl rfl, fun U hU hW => ⟨rfl, by rw [hU], by rw [hU]; exact hPc, va_K.moved hW.alike hKc, hDc.weaken (fun _ _ _ _ => trivial)⟩⟩ rfl rfl hl.1 rfl (lv_room (Nat.le_of_ble_eq_true rfl)) dX11_count_2 ⟨hr_2c, hr_2s⟩) hS (fun q _ h => hFc q h) hFc (fun r_1 u t H1 locs ht hvm hw hB hz1 hk1 hS => ?_)
  obtain ⟨hP1, hK1, hD1⟩ := hB
  rw [ht] at hP1
  obtain ⟨hP, hD⟩ := va_join (wr := []) (w1 := [(h0, .inr (11, [f0, f1, f2, f3, f4, f5, f6, f7, f8, .int 0, .int 0, .int 0, .int 0, f13, f14, f15, .int 0, .int 0, .int 0, .int 0]))]) hP hD [0] [] rfl rfl (by decide +kernel) (by decide +kernel) hk1 hFc hP1 hD1
  generalize H1 = H at hP hS ⊢
  have hP : va_P (dC, dI) vwCl [(h0, .inr (11, [f0, f1, f2, f3, f4, f5, f6, f7, f8, .int 0, .int 0, .int 0, .int 0, f13, f14, f15, .int 0, .int 0, .int 0, .int 0]))] H := hP
  have hD : va_D A [(h0, .inr (11, [f0, f1, f2, f3, f4, f5, f6, f7, f8, .int 0, .int 0, .int 0, .int 0, f13, f14, f15, .int 0, .int 0, .int 0, .int 0]))] := hD
  have hw : r_1 = none := hw
  subst hw
  refine W.eq (g2 := F0 m 5 ls [.null]) rfl ?_
  refine lv_astore_nN (lv' := [(3, .null), (0, .ref h0), (1, .int k), (2, .int j)]) hx hb dX11_count_5 rfl hl (by decide +kernel) rfl (fun ls hl => ?_)
  refine lv_aload_nN hx hb dX11_count_6 rfl (lv_at hl 0 rfl) ?_
  refine lv_ifnonnullN hx hb dX11_count_7 ?_
  refine lv_aload_n hx hb dX11_count_10 rfl (lv_at hl 1 rfl) ?_
  refine lv_iconst (v := 1) hx hb dX11_count_11 (by decide +kernel) ?_
  have hPc := hP.sub (ws' := [(h0, .inr (11, [f0, f1, f2, f3, f4, f5, f6, f7, f8, .int 0, .int 0, .int 0, .int 0, f13, f14, f15, .int 0, .int 0, .int 0, .int 0]))]) [0] rfl
  have hDc := hD.sub (ws' := [(h0, .inr (11, [f0, f1, f2, f3, f4, f5, f6, f7, f8, .int 0, .int 0, .int 0, .int 0, f13, f14, f15, .int 0, .int 0, .int 0, .int 0]))]) [0] (by decide +kernel) rfl
  have hKc := hK.sub (tys' := []) [] rfl
  have hFc := va_free (wc := [(h0, .inr (11, [f0, f1, f2, f3, f4, f5, f6, f7, f8, .int 0, .int 0, .int 0, .int 0, f13, f14, f15, .int 0, .int 0, .int 0, .int 0]))]) hD hS hA [0] rfl
  have hr_4c : 0 + 0 ≤ 0 := by decide +kernel
  have hr_4s : 0 + 0 ≤ 0 := by decide +kernel
  refine va_calli (va_runV (As := [.int 1]) (rest := []) ⟨hx, hb, hml, hown, hts⟩ (k_X11_refuse l dC dI H.size h0 f0 f1 f2 f3 f4 f5 f6 f7 f8 (.int 0) (.int 0) (.int 0) (.int 0) f13 f14 f15 (.int 0) (.int 0) (.int 0) (.int 0) 1) (cwV 1 hts wq_X11_count_g1 rfl rfl rfl (by decide +kernel) ⟨Nat.le_of_ble_eq_true rfl, Nat.le_of_ble_eq_true rfl⟩) ⟨fun a U g mk q => by obtain ⟨q0, q1, qP, qK, qD⟩ := q; exact ⟨q0, q1, qP, va_K.moved (u := U) (U := U.calling g mk a) (Vm.Alike.refl U.vm) qK, qD⟩, va_recv hKc hPc (ci := 11) (q0 := 0) rfl rfl, fun U hU hW => ⟨rfl, by rw [hU], by rw [hU]; exact hPc, va_K.moved hW.alike hKc, hDc.weaken (fun _ _ _ _ => trivial)⟩⟩ rfl rfl hl.1 rfl (lv_room (Nat.le_of_ble_eq_true rfl)) dX11_count_12 ⟨hr_4c, hr_4s⟩) hS (fun q _ h => hFc q h) hFc (fun r_3 u t H1 locs ht hvm hw hB hz1 hk1 hS => ?_)
  obtain ⟨hP1, hK1, hD1⟩ := hB
  rw [ht] at hP1
  obtain ⟨hP, hD⟩ := va_join (wr := []) (w1 := [(h0, .inr (11, [f0, f1, f2, f3, f4, f5, f6, f7, f8, .int 0, .int 0, .int 0, .int 0, f13, f14, f15, .int 0, .int 0, .int 0, .int 1]))]) hP hD [0] [] rfl rfl (by decide +kernel) (by decide +kernel) hk1 hFc hP1 hD1
  generalize H1 = H at hP hS ⊢
  have hP : va_P (dC, dI) vwCl [(h0, .inr (11, [f0, f1, f2, f3, f4, f5, f6, f7, f8, .int 0, .int 0, .int 0, .int 0, f13, f14, f15, .int 0, .int 0, .int 0, .int 1]))] H := hP
  have hD : va_D A [(h0, .inr (11, [f0, f1, f2, f3, f4, f5, f6, f7, f8, .int 0, .int 0, .int 0, .int 0, f13, f14, f15, .int 0, .int 0, .int 0, .int 1]))] := hD
  have hw : r_3 = -1 := hw
  subst hw
  exact W.iret (v := (-1)) hx hb hr (fun t ht hW => ⟨⟨(-1), (), rfl, rfl, trivial⟩, hS.F ht⟩) hS.2.2 dX11_count_15
def wq_X11_status_o : List Cond := [.fieldLink RX11 266 "SixNet" "status" "I"]
def wq_X11_status : List Cond := .code yX11_status cX11_status 1 (some .int) :: (wq_X11_status_o ++ (wsX110 ++ ([])))
set_option maxRecDepth 20000 in
theorem gt_wq_X11_status : GoodIn lw_tbl wq_X11_status := goodIn_ca (goodIn_p (.code yX11_status cX11_status 1 (some .int) :: wq_X11_status_o) [1340] (by decide +kernel) (by decide +kernel)) (goodIn_app gt_wsX110 (fun _ h => absurd h List.not_mem_nil))
set_option maxHeartbeats 4000000 in
set_option maxRecDepth 100000 in
theorem k_X11_status (l : Launch) (dC : Nat → ClassId) (dI : Nat → Nat → Nat) (sz : Nat) (h0 : Nat) (f0 : Value) (f1 : Value) (f2 : Value) (f3 : Value) (f4 : Value) (f5 : Value) (f6 : Value) (f7 : Value) (f8 : Value) (f13 : Value) (f14 : Value) (f15 : Value) : Met l yX11_status wq_X11_status ({ frames := 10, cells := 0, slots := 0, locals := 1200 }) (va_Pc [.ref h0] (fun U => U.heap.size = sz ∧ va_P (dC, dI) vwCl [(h0, .inr (11, [f0, f1, f2, f3, f4, f5, f6, f7, f8, .int 0, .int 0, .int 0, .int 0, f13, f14, f15, .int 0, .int 0, .int 0, .int 0]))] U.heap ∧ va_K (dC, dI) vwCl [] U ∧ va_D (fun _ => True) [(h0, .inr (11, [f0, f1, f2, f3, f4, f5, f6, f7, f8, .int 0, .int 0, .int 0, .int 0, f13, f14, f15, .int 0, .int 0, .int 0, .int 0]))])) (va_Qi (fun (r : Int32) (_ : Unit) => r = 0) (fun (_ : Unit) (_ : State) => True) (va_A [(h0, .inr (11, [f0, f1, f2, f3, f4, f5, f6, f7, f8, .int 0, .int 0, .int 0, .int 0, f13, f14, f15, .int 0, .int 0, .int 0, .int 0]))] sz)) 0 0 (va_A [(h0, .inr (11, [f0, f1, f2, f3, f4, f5, f6, f7, f8, .int 0, .int 0, .int 0, .int 0, f13, f14, f15, .int 0, .int 0, .int 0, .int 0]))] sz) := by
  refine Met.ofW (cc := cX11_status) (maxL := 1) (ret := (some .int)) (by decide +kernel) rfl ?_
  intro p e s m args below meth c s₁ B hml hv
  obtain ⟨rfl, hsz, hP, hK, hD0⟩ := hv
  have hx := B.exec
  have hb := B.bytes
  have hr := B.returns
  have hts := atoms_spec (ws := wq_X11_status) B.pre
  have hown : s.vm.findClass RX11 = some m.cls := findClass_of_methodNamed B.named
  have hlocks := B.notSynchronized
  subst hsz
  have hD := hD0.self (sz := s.heap.size)
  generalize hAe : va_A [(h0, .inr (11, [f0, f1, f2, f3, f4, f5, f6, f7, f8, .int 0, .int 0, .int 0, .int 0, f13, f14, f15, .int 0, .int 0, .int 0, .int 0]))] s.heap.size = A at hD ⊢
  have hA : ∀ q : Nat, s.heap.size ≤ q → A q := fun q h => by rw [← hAe]; exact Or.inr h
  have hS : va_S A s.heap s.heap [] := va_S.rf
  have hP : va_P (dC, dI) vwCl [(h0, .inr (11, [f0, f1, f2, f3, f4, f5, f6, f7, f8, .int 0, .int 0, .int 0, .int 0, f13, f14, f15, .int 0, .int 0, .int 0, .int 0]))] s.heap := hP
  have hl := lv_entry ([.ref h0]) (n := 1) (Nat.le_of_ble_eq_true rfl)
  rw [lg_entry_eq]
  generalize (lg_sl ([.ref h0]) ++ List.replicate (1 - (lg_sl ([.ref h0])).length) Slot.unset).toArray = ls at hl ⊢
  have hl : lv_has ls 1 [(0, .ref h0)] := hl
  refine lv_aload_n hx hb dX11_status_0 rfl (lv_at hl 0 rfl) ?_
  refine va_get (D := (dC, dI)) (ci := 11) (v := .int 0) (C := RX11) (T := TX11) (N := 20) hx hb hts (fun w h => List.mem_cons_of_mem _ (List.mem_append_right _ (List.mem_append_left _ h))) hown hK hP 0 rfl rfl 19 (by decide +kernel) (hts (.fieldLink RX11 266 "SixNet" "status" "I") (List.mem_cons_of_mem _ (List.mem_append_left _ (List.mem_of_getElem? (i := 0) rfl)))) (fun _ h9 => h9) rfl dX11_status_1 ?_
  exact W.iret (v := 0) hx hb hr (fun t ht hW => ⟨⟨0, (), rfl, rfl, trivial⟩, hS.F ht⟩) hS.2.2 dX11_status_4
def wq_X11_hurry_o : List Cond := [.fieldLink RX11 38 "SixNet" "flight" "LSixNet$Row;", .fieldLink RX11 229 "SixNet$Row" "count" "I"]
def wq_X11_hurry : List Cond := .code yX11_hurry cX11_hurry 3 (some .int) :: (wq_X11_hurry_o ++ ((wsV RX11 76 RX11 yX11_refuse wq_X11_refuse) ++ ((wsV RX11 83 RX11 yX11_answer wq_X11_answer) ++ (wsX110 ++ (wsX90 ++ ([]))))))
set_option maxRecDepth 20000 in
theorem gt_wq_X11_hurry : GoodIn lw_tbl wq_X11_hurry := goodIn_ca (goodIn_p (.code yX11_hurry cX11_hurry 3 (some .int) :: wq_X11_hurry_o) [1256] (by decide +kernel) (by decide +kernel)) (goodIn_app (goodIn_app (goodIn_of _ (by decide +kernel)) gt_wq_X11_refuse) (goodIn_app (goodIn_app (goodIn_of _ (by decide +kernel)) gt_wq_X11_answer) (goodIn_app gt_wsX110 (goodIn_app gt_wsX90 (fun _ h => absurd h List.not_mem_nil)))))
set_option maxRecDepth 20000 in
theorem wq_X11_hurry_g0 : GoodIn wq_X11_hurry (wsV RX11 76 RX11 yX11_refuse wq_X11_refuse) := goodIn_sub (fun w h => List.mem_cons_of_mem _ (List.mem_append_right _ (List.mem_append_left _ h))) (by decide +kernel)
set_option maxRecDepth 20000 in
theorem wq_X11_hurry_g1 : GoodIn wq_X11_hurry (wsV RX11 83 RX11 yX11_answer wq_X11_answer) := goodIn_sub (fun w h => List.mem_cons_of_mem _ (List.mem_append_right _ (List.mem_append_right _ (List.mem_append_left _ h)))) (by decide +kernel)
set_option maxHeartbeats 4000000 in
set_option maxRecDepth 100000 in
theorem k_X11_hurry (l : Launch) (dC : Nat → ClassId) (dI : Nat → Nat → Nat) (sz : Nat) (h0 : Nat) (f0 : Value) (f1 : Value) (f2 : Value) (f3 : Value) (f5 : Value) (f6 : Value) (f7 : Value) (f8 : Value) (f13 : Value) (f14 : Value) (f15 : Value) (hf : Nat) (g0 : Value) (k : Int32) : Met l yX11_hurry wq_X11_hurry ({ frames := 10, cells := 0, slots := 0, locals := 1200 }) (va_Pc [.ref h0, .int k] (fun U => U.heap.size = sz ∧ va_P (dC, dI) vwCl [(h0, .inr (11, [f0, f1, f2, f3, .ref hf, f5, f6, f7, f8, .int 0, .int 0, .int 0, .int 0, f13, f14, f15, .int 0, .int 0, .int 0, .int 0])), (hf, .inr (9, [g0, .int 0]))] U.heap ∧ va_K (dC, dI) vwCl [] U ∧ va_D (fun _ => True) [(h0, .inr (11, [f0, f1, f2, f3, .ref hf, f5, f6, f7, f8, .int 0, .int 0, .int 0, .int 0, f13, f14, f15, .int 0, .int 0, .int 0, .int 0])), (hf, .inr (9, [g0, .int 0]))])) (va_Qi (fun (r : Int32) (_ : Unit) => r = (if 1 ≤ k ∧ k ≤ 200 then 0 else -1)) (fun (_ : Unit) (_ : State) => True) (va_A [(h0, .inr (11, [f0, f1, f2, f3, .ref hf, f5, f6, f7, f8, .int 0, .int 0, .int 0, .int 0, f13, f14, f15, .int 0, .int 0, .int 0, .int 0])), (hf, .inr (9, [g0, .int 0]))] sz)) 0 0 (va_A [(h0, .inr (11, [f0, f1, f2, f3, .ref hf, f5, f6, f7, f8, .int 0, .int 0, .int 0, .int 0, f13, f14, f15, .int 0, .int 0, .int 0, .int 0])), (hf, .inr (9, [g0, .int 0]))] sz) := by
  refine Met.ofW (cc := cX11_hurry) (maxL := 3) (ret := (some .int)) (by decide +kernel) rfl ?_
  intro p e s m args below meth c s₁ B hml hv
  obtain ⟨rfl, hsz, hP, hK, hD0⟩ := hv
  have hx := B.exec
  have hb := B.bytes
  have hr := B.returns
  have hts := atoms_spec (ws := wq_X11_hurry) B.pre
  have hown : s.vm.findClass RX11 = some m.cls := findClass_of_methodNamed B.named
  have hlocks := B.notSynchronized
  subst hsz
  have hD := hD0.self (sz := s.heap.size)
  generalize hAe : va_A [(h0, .inr (11, [f0, f1, f2, f3, .ref hf, f5, f6, f7, f8, .int 0, .int 0, .int 0, .int 0, f13, f14, f15, .int 0, .int 0, .int 0, .int 0])), (hf, .inr (9, [g0, .int 0]))] s.heap.size = A at hD ⊢
  have hA : ∀ q : Nat, s.heap.size ≤ q → A q := fun q h => by rw [← hAe]; exact Or.inr h
  have hS : va_S A s.heap s.heap [] := va_S.rf
  have hP : va_P (dC, dI) vwCl [(h0, .inr (11, [f0, f1, f2, f3, .ref hf, f5, f6, f7, f8, .int 0, .int 0, .int 0, .int 0, f13, f14, f15, .int 0, .int 0, .int 0, .int 0])), (hf, .inr (9, [g0, .int 0]))] s.heap := hP
  have hl := lv_entry ([.ref h0, .int k]) (n := 3) (Nat.le_of_ble_eq_true rfl)
  rw [lg_entry_eq]
  generalize (lg_sl ([.ref h0, .int k]) ++ List.replicate (3 - (lg_sl ([.ref h0, .int k])).length) Slot.unset).toArray = ls at hl ⊢
  have hl : lv_has ls 3 [(0, .ref h0), (1, .int k)] := hl
  refine lv_iload_n hx hb dX11_hurry_0 rfl (lv_at hl 1 rfl) ?_
  refine lv_iconst (v := 1) hx hb dX11_hurry_1 (by decide +kernel) ?_
  refine lv_icmp_lt (tgt := 12) hx hb dX11_hurry_2 (by decide +kernel) (fun c_1 => ?_) (fun c_1 => ?_)
  · refine lv_aload_n hx hb dX11_hurry_12 rfl (lv_at hl 0 rfl) ?_
    refine lv_iconst (v := 4) hx hb dX11_hurry_13 (by decide +kernel) ?_
    have hPc := hP.sub (ws' := [(h0, .inr (11, [f0, f1, f2, f3, .ref hf, f5, f6, f7, f8, .int 0, .int 0, .int 0, .int 0, f13, f14, f15, .int 0, .int 0, .int 0, .int 0]))]) [0] rfl
    have hDc := hD.sub (ws' := [(h0, .inr (11, [f0, f1, f2, f3, .ref hf, f5, f6, f7, f8, .int 0, .int 0, .int 0, .int 0, f13, f14, f15, .int 0, .int 0, .int 0, .int 0]))]) [0] (by decide +kernel) rfl
    have hKc := hK.sub (tys' := []) [] rfl
    have hFc := va_free (wc := [(h0, .inr (11, [f0, f1, f2, f3, .ref hf, f5, f6, f7, f8, .int 0, .int 0, .int 0, .int 0, f13, f14, f15, .int 0, .int 0, .int 0, .int 0]))]) hD hS hA [0] rfl
    have hr_3c : 0 + 0 ≤ 0 := by decide +kernel
    have hr_3s : 0 + 0 ≤ 0 := by decide +kernel
    refine va_calli (va_runV (As := [.int 4]) (rest := []) ⟨hx, hb, hml, hown, hts⟩ (k_X11_refuse l dC dI s.heap.size h0 f0 f1 f2 f3 (.ref hf) f5 f6 f7 f8 (.int 0) (.int 0) (.int 0) (.int 0) f13 f14 f15 (.int 0) (.int 0) (.int 0) (.int 0) 4) (cwV 1 hts wq_X11_hurry_g0 rfl rfl rfl (by decide +kernel) ⟨Nat.le_of_ble_eq_true rfl, Nat.le_of_ble_eq_true rfl⟩) ⟨fun a U g mk q => by obtain ⟨q0, q1, qP, qK, qD⟩ := q; exact ⟨q0, q1, qP, va_K.moved (u := U) (U := U.calling g mk a) (Vm.Alike.refl U.vm) qK, qD⟩, va_recv hKc hPc (ci := 11) (q0 := 0) rfl rfl, fun U hU hW => ⟨rfl, by rw [hU], by rw [hU]; exact hPc, va_K.moved hW.alike hKc, hDc.weaken (fun _ _ _ _ => trivial)⟩⟩ rfl rfl hl.1 rfl (lv_room (Nat.le_of_ble_eq_true rfl)) dX11_hurry_14 ⟨hr_3c, hr_3s⟩) hS (fun q _ h => hFc q h) hFc (fun r_2 u t H1 locs ht hvm hw hB hz1 hk1 hS => ?_)
    obtain ⟨hP1, hK1, hD1⟩ := hB
    rw [ht] at hP1
    obtain ⟨hP, hD⟩ := va_join (wr := [(hf, .inr (9, [g0, .int 0]))]) (w1 := [(h0, .inr (11, [f0, f1, f2, f3, .ref hf, f5, f6, f7, f8, .int 0, .int 0, .int 0, .int 0, f13, f14, f15, .int 0, .int 0, .int 0, .int 4]))]) hP hD [0] [1] rfl rfl (by decide +kernel) (by decide +kernel) hk1 hFc hP1 hD1
    generalize H1 = H at hP hS ⊢
    have hP : va_P (dC, dI) vwCl [(hf, .inr (9, [g0, .int 0])), (h0, .inr (11, [f0, f1, f2, f3, .ref hf, f5, f6, f7, f8, .int 0, .int 0, .int 0, .int 0, f13, f14, f15, .int 0, .int 0, .int 0, .int 4]))] H := hP
    have hD : va_D A [(hf, .inr (9, [g0, .int 0])), (h0, .inr (11, [f0, f1, f2, f3, .ref hf, f5, f6, f7, f8, .int 0, .int 0, .int 0, .int 0, f13, f14, f15, .int 0, .int 0, .int 0, .int 4]))] := hD
    have hw : r_2 = -1 := hw
    subst hw
    exact W.iret (v := (-1)) hx hb hr (fun t ht hW => ⟨⟨(-1), (), rfl, (by (try simp only [Int32.lt_iff_toInt_lt, Int32.le_iff_toInt_le, show (1 : Int32).toInt = 1 from rfl, show (200 : Int32).toInt = 200 from rfl] at c_1); simp only [Int32.lt_iff_toInt_lt, Int32.le_iff_toInt_le, show (1 : Int32).toInt = 1 from rfl, show (200 : Int32).toInt = 200 from rfl]; split <;> first | rfl | omega), trivial⟩, hS.F ht⟩) hS.2.2 dX11_hurry_17
  · refine lv_iload_n hx hb dX11_hurry_5 rfl (lv_at hl 1 rfl) ?_
    refine lv_sipush (v := 200) hx hb dX11_hurry_6 (by decide +kernel) ?_
    refine lv_icmp_le (tgt := 18) hx hb dX11_hurry_9 (by decide +kernel) (fun c_4 => ?_) (fun c_4 => ?_)
    · refine lv_iconst (v := 0) hx hb dX11_hurry_18 (by decide +kernel) ?_
      refine lv_istore_n (lv' := [(2, .int 0), (0, .ref h0), (1, .int k)]) hx hb dX11_hurry_19 rfl hl (by decide +kernel) rfl (fun ls hl => ?_)
      refine lv_iload_n hx hb dX11_hurry_20 rfl (lv_at hl 0 rfl) ?_
      refine lv_iload_n hx hb dX11_hurry_21 rfl (lv_at hl 2 rfl) ?_
      refine lv_icmp_ge (tgt := 46) hx hb dX11_hurry_22 (by decide +kernel) (fun c_5 => ?_) (fun c_5 => ?_)
      · refine lv_aload_n hx hb dX11_hurry_46 rfl (lv_at hl 1 rfl) ?_
        refine lv_iload_n hx hb dX11_hurry_47 rfl (lv_at hl 0 rfl) ?_
        have hPc := hP.sub (ws' := [(h0, .inr (11, [f0, f1, f2, f3, .ref hf, f5, f6, f7, f8, .int 0, .int 0, .int 0, .int 0, f13, f14, f15, .int 0, .int 0, .int 0, .int 0]))]) [0] rfl
        have hDc := hD.sub (ws' := [(h0, .inr (11, [f0, f1, f2, f3, .ref hf, f5, f6, f7, f8, .int 0, .int 0, .int 0, .int 0, f13, f14, f15, .int 0, .int 0, .int 0, .int 0]))]) [0] (by decide +kernel) rfl
        have hKc := hK.sub (tys' := []) [] rfl
        have hFc := va_free (wc := [(h0, .inr (11, [f0, f1, f2, f3, .ref hf, f5, f6, f7, f8, .int 0, .int 0, .int 0, .int 0, f13, f14, f15, .int 0, .int 0, .int 0, .int 0]))]) hD hS hA [0] rfl
        have hr_7c : 0 + 0 ≤ 0 := by decide +kernel
        have hr_7s : 0 + 0 ≤ 0 := by decide +kernel
        refine va_calli (va_runV (As := [.int 0]) (rest := []) ⟨hx, hb, hml, hown, hts⟩ (k_X11_answer l dC dI s.heap.size h0 f0 f1 f2 f3 (.ref hf) f5 f6 f7 f8 (.int 0) (.int 0) (.int 0) (.int 0) f13 f14 f15 (.int 0) (.int 0) (.int 0) (.int 0) 0) (cwV 1 hts wq_X11_hurry_g1 rfl rfl rfl (by decide +kernel) ⟨Nat.le_of_ble_eq_true rfl, Nat.le_of_ble_eq_true rfl⟩) ⟨fun a U g mk q => by obtain ⟨q0, q1, qP, qK, qD⟩ := q; exact ⟨q0, q1, qP, va_K.moved (u := U) (U := U.calling g mk a) (Vm.Alike.refl U.vm) qK, qD⟩, va_recv hKc hPc (ci := 11) (q0 := 0) rfl rfl, fun U hU hW => ⟨rfl, by rw [hU], by rw [hU]; exact hPc, va_K.moved hW.alike hKc, hDc.weaken (fun _ _ _ _ => trivial)⟩⟩ rfl rfl hl.1 rfl (lv_room (Nat.le_of_ble_eq_true rfl)) dX11_hurry_48 ⟨hr_7c, hr_7s⟩) hS (fun q _ h => hFc q h) hFc (fun r_6 u t H1 locs ht hvm hw hB hz1 hk1 hS => ?_)
        obtain ⟨hP1, hK1, hD1⟩ := hB
        rw [ht] at hP1
        obtain ⟨hP, hD⟩ := va_join (wr := [(hf, .inr (9, [g0, .int 0]))]) (w1 := [(h0, .inr (11, [f0, f1, f2, f3, .ref hf, f5, f6, f7, f8, .int 0, .int 0, .int 0, .int 0, f13, f14, f15, .int 0, .int 0, .int 0, .int 0]))]) hP hD [0] [1] rfl rfl (by decide +kernel) (by decide +kernel) hk1 hFc hP1 hD1
        generalize H1 = H at hP hS ⊢
        have hP : va_P (dC, dI) vwCl [(hf, .inr (9, [g0, .int 0])), (h0, .inr (11, [f0, f1, f2, f3, .ref hf, f5, f6, f7, f8, .int 0, .int 0, .int 0, .int 0, f13, f14, f15, .int 0, .int 0, .int 0, .int 0]))] H := hP
        have hD : va_D A [(hf, .inr (9, [g0, .int 0])), (h0, .inr (11, [f0, f1, f2, f3, .ref hf, f5, f6, f7, f8, .int 0, .int 0, .int 0, .int 0, f13, f14, f15, .int 0, .int 0, .int 0, .int 0]))] := hD
        have hw : r_6 = 0 := hw
        subst hw
        exact W.iret (v := 0) hx hb hr (fun t ht hW => ⟨⟨0, (), rfl, (by (try simp only [Int32.lt_iff_toInt_lt, Int32.le_iff_toInt_le, show (1 : Int32).toInt = 1 from rfl, show (200 : Int32).toInt = 200 from rfl] at c_1); (try simp only [Int32.lt_iff_toInt_lt, Int32.le_iff_toInt_le, show (1 : Int32).toInt = 1 from rfl, show (200 : Int32).toInt = 200 from rfl] at c_4); (try simp only [Int32.lt_iff_toInt_lt, Int32.le_iff_toInt_le, show (1 : Int32).toInt = 1 from rfl, show (200 : Int32).toInt = 200 from rfl] at c_5); simp only [Int32.lt_iff_toInt_lt, Int32.le_iff_toInt_le, show (1 : Int32).toInt = 1 from rfl, show (200 : Int32).toInt = 200 from rfl]; split <;> first | rfl | omega), trivial⟩, hS.F ht⟩) hS.2.2 dX11_hurry_51
      · refine lv_aload_n hx hb dX11_hurry_25 rfl (lv_at hl 1 rfl) ?_
        refine va_get (D := (dC, dI)) (ci := 11) (v := .ref hf) (C := RX11) (T := TX11) (N := 20) hx hb hts (fun w h => List.mem_cons_of_mem _ (List.mem_append_right _ (List.mem_append_right _ (List.mem_append_right _ (List.mem_append_left _ h))))) hown hK hP 0 rfl rfl 4 (by decide +kernel) (hts (.fieldLink RX11 38 "SixNet" "flight" "LSixNet$Row;") (List.mem_cons_of_mem _ (List.mem_append_left _ (List.mem_of_getElem? (i := 0) rfl)))) (fun _ h9 => h9) rfl dX11_hurry_26 ?_
        refine va_get (D := (dC, dI)) (ci := 9) (v := .int 0) (C := RX9) (T := TX9) (N := 2) hx hb hts (fun w h => List.mem_cons_of_mem _ (List.mem_append_right _ (List.mem_append_right _ (List.mem_append_right _ (List.mem_append_right _ (List.mem_append_left _ h)))))) hown hK hP 1 rfl rfl 1 (by decide +kernel) (hts (.fieldLink RX11 229 "SixNet$Row" "count" "I") (List.mem_cons_of_mem _ (List.mem_append_left _ (List.mem_of_getElem? (i := 1) rfl)))) (fun _ h9 => h9) rfl dX11_hurry_29 ?_
        refine lv_if_le (tgt := 46) hx hb dX11_hurry_32 (by decide +kernel) (fun c_8 => ?_) (fun c_8 => ?_)
        · refine lv_aload_n hx hb dX11_hurry_46 rfl (lv_at hl 1 rfl) ?_
          refine lv_iload_n hx hb dX11_hurry_47 rfl (lv_at hl 0 rfl) ?_
          have hPc := hP.sub (ws' := [(h0, .inr (11, [f0, f1, f2, f3, .ref hf, f5, f6, f7, f8, .int 0, .int 0, .int 0, .int 0, f13, f14, f15, .int 0, .int 0, .int 0, .int 0]))]) [0] rfl
          have hDc := hD.sub (ws' := [(h0, .inr (11, [f0, f1, f2, f3, .ref hf, f5, f6, f7, f8, .int 0, .int 0, .int 0, .int 0, f13, f14, f15, .int 0, .int 0, .int 0, .int 0]))]) [0] (by decide +kernel) rfl
          have hKc := hK.sub (tys' := []) [] rfl
          have hFc := va_free (wc := [(h0, .inr (11, [f0, f1, f2, f3, .ref hf, f5, f6, f7, f8, .int 0, .int 0, .int 0, .int 0, f13, f14, f15, .int 0, .int 0, .int 0, .int 0]))]) hD hS hA [0] rfl
          have hr_10c : 0 + 0 ≤ 0 := by decide +kernel
          have hr_10s : 0 + 0 ≤ 0 := by decide +kernel
          refine va_calli (va_runV (As := [.int 0]) (rest := []) ⟨hx, hb, hml, hown, hts⟩ (k_X11_answer l dC dI s.heap.size h0 f0 f1 f2 f3 (.ref hf) f5 f6 f7 f8 (.int 0) (.int 0) (.int 0) (.int 0) f13 f14 f15 (.int 0) (.int 0) (.int 0) (.int 0) 0) (cwV 1 hts wq_X11_hurry_g1 rfl rfl rfl (by decide +kernel) ⟨Nat.le_of_ble_eq_true rfl, Nat.le_of_ble_eq_true rfl⟩) ⟨fun a U g mk q => by obtain ⟨q0, q1, qP, qK, qD⟩ := q; exact ⟨q0, q1, qP, va_K.moved (u := U) (U := U.calling g mk a) (Vm.Alike.refl U.vm) qK, qD⟩, va_recv hKc hPc (ci := 11) (q0 := 0) rfl rfl, fun U hU hW => ⟨rfl, by rw [hU], by rw [hU]; exact hPc, va_K.moved hW.alike hKc, hDc.weaken (fun _ _ _ _ => trivial)⟩⟩ rfl rfl hl.1 rfl (lv_room (Nat.le_of_ble_eq_true rfl)) dX11_hurry_48 ⟨hr_10c, hr_10s⟩) hS (fun q _ h => hFc q h) hFc (fun r_9 u t H1 locs ht hvm hw hB hz1 hk1 hS => ?_)
          obtain ⟨hP1, hK1, hD1⟩ := hB
          rw [ht] at hP1
          obtain ⟨hP, hD⟩ := va_join (wr := [(hf, .inr (9, [g0, .int 0]))]) (w1 := [(h0, .inr (11, [f0, f1, f2, f3, .ref hf, f5, f6, f7, f8, .int 0, .int 0, .int 0, .int 0, f13, f14, f15, .int 0, .int 0, .int 0, .int 0]))]) hP hD [0] [1] rfl rfl (by decide +kernel) (by decide +kernel) hk1 hFc hP1 hD1
          generalize H1 = H at hP hS ⊢
          have hP : va_P (dC, dI) vwCl [(hf, .inr (9, [g0, .int 0])), (h0, .inr (11, [f0, f1, f2, f3, .ref hf, f5, f6, f7, f8, .int 0, .int 0, .int 0, .int 0, f13, f14, f15, .int 0, .int 0, .int 0, .int 0]))] H := hP
          have hD : va_D A [(hf, .inr (9, [g0, .int 0])), (h0, .inr (11, [f0, f1, f2, f3, .ref hf, f5, f6, f7, f8, .int 0, .int 0, .int 0, .int 0, f13, f14, f15, .int 0, .int 0, .int 0, .int 0]))] := hD
          have hw : r_9 = 0 := hw
          subst hw
          exact W.iret (v := 0) hx hb hr (fun t ht hW => ⟨⟨0, (), rfl, (by (try simp only [Int32.lt_iff_toInt_lt, Int32.le_iff_toInt_le, show (1 : Int32).toInt = 1 from rfl, show (200 : Int32).toInt = 200 from rfl] at c_1); (try simp only [Int32.lt_iff_toInt_lt, Int32.le_iff_toInt_le, show (1 : Int32).toInt = 1 from rfl, show (200 : Int32).toInt = 200 from rfl] at c_4); (try simp only [Int32.lt_iff_toInt_lt, Int32.le_iff_toInt_le, show (1 : Int32).toInt = 1 from rfl, show (200 : Int32).toInt = 200 from rfl] at c_5); (try simp only [Int32.lt_iff_toInt_lt, Int32.le_iff_toInt_le, show (1 : Int32).toInt = 1 from rfl, show (200 : Int32).toInt = 200 from rfl] at c_8); simp only [Int32.lt_iff_toInt_lt, Int32.le_iff_toInt_le, show (1 : Int32).toInt = 1 from rfl, show (200 : Int32).toInt = 200 from rfl]; split <;> first | rfl | omega), trivial⟩, hS.F ht⟩) hS.2.2 dX11_hurry_51
        · exact absurd c_8 (by decide +kernel)
    · refine lv_aload_n hx hb dX11_hurry_12 rfl (lv_at hl 0 rfl) ?_
      refine lv_iconst (v := 4) hx hb dX11_hurry_13 (by decide +kernel) ?_
      have hPc := hP.sub (ws' := [(h0, .inr (11, [f0, f1, f2, f3, .ref hf, f5, f6, f7, f8, .int 0, .int 0, .int 0, .int 0, f13, f14, f15, .int 0, .int 0, .int 0, .int 0]))]) [0] rfl
      have hDc := hD.sub (ws' := [(h0, .inr (11, [f0, f1, f2, f3, .ref hf, f5, f6, f7, f8, .int 0, .int 0, .int 0, .int 0, f13, f14, f15, .int 0, .int 0, .int 0, .int 0]))]) [0] (by decide +kernel) rfl
      have hKc := hK.sub (tys' := []) [] rfl
      have hFc := va_free (wc := [(h0, .inr (11, [f0, f1, f2, f3, .ref hf, f5, f6, f7, f8, .int 0, .int 0, .int 0, .int 0, f13, f14, f15, .int 0, .int 0, .int 0, .int 0]))]) hD hS hA [0] rfl
      have hr_12c : 0 + 0 ≤ 0 := by decide +kernel
      have hr_12s : 0 + 0 ≤ 0 := by decide +kernel
      refine va_calli (va_runV (As := [.int 4]) (rest := []) ⟨hx, hb, hml, hown, hts⟩ (k_X11_refuse l dC dI s.heap.size h0 f0 f1 f2 f3 (.ref hf) f5 f6 f7 f8 (.int 0) (.int 0) (.int 0) (.int 0) f13 f14 f15 (.int 0) (.int 0) (.int 0) (.int 0) 4) (cwV 1 hts wq_X11_hurry_g0 rfl rfl rfl (by decide +kernel) ⟨Nat.le_of_ble_eq_true rfl, Nat.le_of_ble_eq_true rfl⟩) ⟨fun a U g mk q => by obtain ⟨q0, q1, qP, qK, qD⟩ := q; exact ⟨q0, q1, qP, va_K.moved (u := U) (U := U.calling g mk a) (Vm.Alike.refl U.vm) qK, qD⟩, va_recv hKc hPc (ci := 11) (q0 := 0) rfl rfl, fun U hU hW => ⟨rfl, by rw [hU], by rw [hU]; exact hPc, va_K.moved hW.alike hKc, hDc.weaken (fun _ _ _ _ => trivial)⟩⟩ rfl rfl hl.1 rfl (lv_room (Nat.le_of_ble_eq_true rfl)) dX11_hurry_14 ⟨hr_12c, hr_12s⟩) hS (fun q _ h => hFc q h) hFc (fun r_11 u t H1 locs ht hvm hw hB hz1 hk1 hS => ?_)
      obtain ⟨hP1, hK1, hD1⟩ := hB
      rw [ht] at hP1
      obtain ⟨hP, hD⟩ := va_join (wr := [(hf, .inr (9, [g0, .int 0]))]) (w1 := [(h0, .inr (11, [f0, f1, f2, f3, .ref hf, f5, f6, f7, f8, .int 0, .int 0, .int 0, .int 0, f13, f14, f15, .int 0, .int 0, .int 0, .int 4]))]) hP hD [0] [1] rfl rfl (by decide +kernel) (by decide +kernel) hk1 hFc hP1 hD1
      generalize H1 = H at hP hS ⊢
      have hP : va_P (dC, dI) vwCl [(hf, .inr (9, [g0, .int 0])), (h0, .inr (11, [f0, f1, f2, f3, .ref hf, f5, f6, f7, f8, .int 0, .int 0, .int 0, .int 0, f13, f14, f15, .int 0, .int 0, .int 0, .int 4]))] H := hP
      have hD : va_D A [(hf, .inr (9, [g0, .int 0])), (h0, .inr (11, [f0, f1, f2, f3, .ref hf, f5, f6, f7, f8, .int 0, .int 0, .int 0, .int 0, f13, f14, f15, .int 0, .int 0, .int 0, .int 4]))] := hD
      have hw : r_11 = -1 := hw
      subst hw
      exact W.iret (v := (-1)) hx hb hr (fun t ht hW => ⟨⟨(-1), (), rfl, (by (try simp only [Int32.lt_iff_toInt_lt, Int32.le_iff_toInt_le, show (1 : Int32).toInt = 1 from rfl, show (200 : Int32).toInt = 200 from rfl] at c_1); (try simp only [Int32.lt_iff_toInt_lt, Int32.le_iff_toInt_le, show (1 : Int32).toInt = 1 from rfl, show (200 : Int32).toInt = 200 from rfl] at c_4); simp only [Int32.lt_iff_toInt_lt, Int32.le_iff_toInt_le, show (1 : Int32).toInt = 1 from rfl, show (200 : Int32).toInt = 200 from rfl]; split <;> first | rfl | omega), trivial⟩, hS.F ht⟩) hS.2.2 dX11_hurry_17
def wq_X11_world_o : List Cond := [.fieldLink RX11 142 "SixNet" "now" "I", .fieldLink RX11 72 "SixNet" "nodeCount" "I", .fieldLink RX11 90 "SixNet" "linkCount" "I", .fieldLink RX11 110 "SixNet" "faceCount" "I", .fieldLink RX11 348 "SixNet" "framesSent" "I", .fieldLink RX11 351 "SixNet" "lost" "I", .fieldLink RX11 42 "SixNet" "waits" "LSixNet$Row;", .fieldLink RX11 229 "SixNet$Row" "count" "I"]
def wq_X11_world : List Cond := .code yX11_world cX11_world 2 (some .int) :: (wq_X11_world_o ++ (wsX110 ++ ((wsV RX11 83 RX11 yX11_answer wq_X11_answer) ++ (wsX90 ++ ((wsV RX11 76 RX11 yX11_refuse wq_X11_refuse) ++ ([]))))))
set_option maxRecDepth 20000 in
theorem gt_wq_X11_world : GoodIn lw_tbl wq_X11_world := goodIn_ca (goodIn_p (.code yX11_world cX11_world 2 (some .int) :: wq_X11_world_o) [1336] (by decide +kernel) (by decide +kernel)) (goodIn_app gt_wsX110 (goodIn_app (goodIn_app (goodIn_of _ (by decide +kernel)) gt_wq_X11_answer) (goodIn_app gt_wsX90 (goodIn_app (goodIn_app (goodIn_of _ (by decide +kernel)) gt_wq_X11_refuse) (fun _ h => absurd h List.not_mem_nil)))))
set_option maxRecDepth 20000 in
theorem wq_X11_world_g1 : GoodIn wq_X11_world (wsV RX11 83 RX11 yX11_answer wq_X11_answer) := goodIn_sub (fun w h => List.mem_cons_of_mem _ (List.mem_append_right _ (List.mem_append_right _ (List.mem_append_left _ h)))) (by decide +kernel)
set_option maxRecDepth 20000 in
theorem wq_X11_world_g3 : GoodIn wq_X11_world (wsV RX11 76 RX11 yX11_refuse wq_X11_refuse) := goodIn_sub (fun w h => List.mem_cons_of_mem _ (List.mem_append_right _ (List.mem_append_right _ (List.mem_append_right _ (List.mem_append_right _ (List.mem_append_left _ h)))))) (by decide +kernel)
set_option maxHeartbeats 4000000 in
set_option maxRecDepth 100000 in
theorem k_X11_world (l : Launch) (dC : Nat → ClassId) (dI : Nat → Nat → Nat) (sz : Nat) (h0 : Nat) (f0 : Value) (f1 : Value) (f2 : Value) (f3 : Value) (f4 : Value) (f6 : Value) (f7 : Value) (f8 : Value) (f13 : Value) (f14 : Value) (f15 : Value) (hv : Nat) (g1 : Value) (k : Int32) : Met l yX11_world wq_X11_world ({ frames := 10, cells := 0, slots := 0, locals := 1200 }) (va_Pc [.ref h0, .int k] (fun U => U.heap.size = sz ∧ va_P (dC, dI) vwCl [(h0, .inr (11, [f0, f1, f2, f3, f4, .ref hv, f6, f7, f8, .int 0, .int 0, .int 0, .int 0, f13, f14, f15, .int 0, .int 0, .int 0, .int 0])), (hv, .inr (9, [g1, .int 0]))] U.heap ∧ va_K (dC, dI) vwCl [] U ∧ va_D (fun _ => True) [(h0, .inr (11, [f0, f1, f2, f3, f4, .ref hv, f6, f7, f8, .int 0, .int 0, .int 0, .int 0, f13, f14, f15, .int 0, .int 0, .int 0, .int 0])), (hv, .inr (9, [g1, .int 0]))])) (va_Qi (fun (r : Int32) (_ : Unit) => r = (if 0 ≤ k ∧ k ≤ 6 then 0 else -1)) (fun (_ : Unit) (_ : State) => True) (va_A [(h0, .inr (11, [f0, f1, f2, f3, f4, .ref hv, f6, f7, f8, .int 0, .int 0, .int 0, .int 0, f13, f14, f15, .int 0, .int 0, .int 0, .int 0])), (hv, .inr (9, [g1, .int 0]))] sz)) 0 0 (va_A [(h0, .inr (11, [f0, f1, f2, f3, f4, .ref hv, f6, f7, f8, .int 0, .int 0, .int 0, .int 0, f13, f14, f15, .int 0, .int 0, .int 0, .int 0])), (hv, .inr (9, [g1, .int 0]))] sz) := by
  refine Met.ofW (cc := cX11_world) (maxL := 2) (ret := (some .int)) (by decide +kernel) rfl ?_
  intro p e s m args below meth c s₁ B hml hv
  obtain ⟨rfl, hsz, hP, hK, hD0⟩ := hv
  have hx := B.exec
  have hb := B.bytes
  have hr := B.returns
  have hts := atoms_spec (ws := wq_X11_world) B.pre
  have hown : s.vm.findClass RX11 = some m.cls := findClass_of_methodNamed B.named
  have hlocks := B.notSynchronized
  subst hsz
  have hD := hD0.self (sz := s.heap.size)
  generalize hAe : va_A [(h0, .inr (11, [f0, f1, f2, f3, f4, .ref hv, f6, f7, f8, .int 0, .int 0, .int 0, .int 0, f13, f14, f15, .int 0, .int 0, .int 0, .int 0])), (hv, .inr (9, [g1, .int 0]))] s.heap.size = A at hD ⊢
  have hA : ∀ q : Nat, s.heap.size ≤ q → A q := fun q h => by rw [← hAe]; exact Or.inr h
  have hS : va_S A s.heap s.heap [] := va_S.rf
  have hP : va_P (dC, dI) vwCl [(h0, .inr (11, [f0, f1, f2, f3, f4, .ref hv, f6, f7, f8, .int 0, .int 0, .int 0, .int 0, f13, f14, f15, .int 0, .int 0, .int 0, .int 0])), (hv, .inr (9, [g1, .int 0]))] s.heap := hP
  have hl := lv_entry ([.ref h0, .int k]) (n := 2) (Nat.le_of_ble_eq_true rfl)
  rw [lg_entry_eq]
  generalize (lg_sl ([.ref h0, .int k]) ++ List.replicate (2 - (lg_sl ([.ref h0, .int k])).length) Slot.unset).toArray = ls at hl ⊢
  have hl : lv_has ls 2 [(0, .ref h0), (1, .int k)] := hl
  refine lv_iload_n hx hb dX11_world_0 rfl (lv_at hl 1 rfl) ?_
  by_cases t_1 : k = 0
  · subst t_1
    refine lv_tableIn (tgt := 44) (off := 43) hx hb dX11_world_1 (by decide +kernel) (by decide +kernel) (by decide +kernel) (by decide +kernel) ?_
    refine lv_aload_n hx hb dX11_world_44 rfl (lv_at hl 0 rfl) ?_
    refine lv_aload_n hx hb dX11_world_45 rfl (lv_at hl 0 rfl) ?_
    refine va_get (D := (dC, dI)) (ci := 11) (v := .int 0) (C := RX11) (T := TX11) (N := 20) hx hb hts (fun w h => List.mem_cons_of_mem _ (List.mem_append_right _ (List.mem_append_left _ h))) hown hK hP 0 rfl rfl 16 (by decide +kernel) (hts (.fieldLink RX11 142 "SixNet" "now" "I") (List.mem_cons_of_mem _ (List.mem_append_left _ (List.mem_of_getElem? (i := 0) rfl)))) (fun _ h9 => h9) rfl dX11_world_46 ?_
    have hPc := hP.sub (ws' := [(h0, .inr (11, [f0, f1, f2, f3, f4, .ref hv, f6, f7, f8, .int 0, .int 0, .int 0, .int 0, f13, f14, f15, .int 0, .int 0, .int 0, .int 0]))]) [0] rfl
    have hDc := hD.sub (ws' := [(h0, .inr (11, [f0, f1, f2, f3, f4, .ref hv, f6, f7, f8, .int 0, .int 0, .int 0, .int 0, f13, f14, f15, .int 0, .int 0, .int 0, .int 0]))]) [0] (by decide +kernel) rfl
    have hKc := hK.sub (tys' := []) [] rfl
    have hFc := va_free (wc := [(h0, .inr (11, [f0, f1, f2, f3, f4, .ref hv, f6, f7, f8, .int 0, .int 0, .int 0, .int 0, f13, f14, f15, .int 0, .int 0, .int 0, .int 0]))]) hD hS hA [0] rfl
    have hr_3c : 0 + 0 ≤ 0 := by decide +kernel
    have hr_3s : 0 + 0 ≤ 0 := by decide +kernel
    refine va_calli (va_runV (As := [.int 0]) (rest := []) ⟨hx, hb, hml, hown, hts⟩ (k_X11_answer l dC dI s.heap.size h0 f0 f1 f2 f3 f4 (.ref hv) f6 f7 f8 (.int 0) (.int 0) (.int 0) (.int 0) f13 f14 f15 (.int 0) (.int 0) (.int 0) (.int 0) 0) (cwV 1 hts wq_X11_world_g1 rfl rfl rfl (by decide +kernel) ⟨Nat.le_of_ble_eq_true rfl, Nat.le_of_ble_eq_true rfl⟩) ⟨fun a U g mk q => by obtain ⟨q0, q1, qP, qK, qD⟩ := q; exact ⟨q0, q1, qP, va_K.moved (u := U) (U := U.calling g mk a) (Vm.Alike.refl U.vm) qK, qD⟩, va_recv hKc hPc (ci := 11) (q0 := 0) rfl rfl, fun U hU hW => ⟨rfl, by rw [hU], by rw [hU]; exact hPc, va_K.moved hW.alike hKc, hDc.weaken (fun _ _ _ _ => trivial)⟩⟩ rfl rfl hl.1 rfl (lv_room (Nat.le_of_ble_eq_true rfl)) dX11_world_49 ⟨hr_3c, hr_3s⟩) hS (fun q _ h => hFc q h) hFc (fun r_2 u t H1 locs ht hvm hw hB hz1 hk1 hS => ?_)
    obtain ⟨hP1, hK1, hD1⟩ := hB
    rw [ht] at hP1
    obtain ⟨hP, hD⟩ := va_join (wr := [(hv, .inr (9, [g1, .int 0]))]) (w1 := [(h0, .inr (11, [f0, f1, f2, f3, f4, .ref hv, f6, f7, f8, .int 0, .int 0, .int 0, .int 0, f13, f14, f15, .int 0, .int 0, .int 0, .int 0]))]) hP hD [0] [1] rfl rfl (by decide +kernel) (by decide +kernel) hk1 hFc hP1 hD1
    generalize H1 = H at hP hS ⊢
    have hP : va_P (dC, dI) vwCl [(hv, .inr (9, [g1, .int 0])), (h0, .inr (11, [f0, f1, f2, f3, f4, .ref hv, f6, f7, f8, .int 0, .int 0, .int 0, .int 0, f13, f14, f15, .int 0, .int 0, .int 0, .int 0]))] H := hP
    have hD : va_D A [(hv, .inr (9, [g1, .int 0])), (h0, .inr (11, [f0, f1, f2, f3, f4, .ref hv, f6, f7, f8, .int 0, .int 0, .int 0, .int 0, f13, f14, f15, .int 0, .int 0, .int 0, .int 0]))] := hD
    have hw : r_2 = 0 := hw
    subst hw
    exact W.iret (v := 0) hx hb hr (fun t ht hW => ⟨⟨0, (), rfl, (by decide), trivial⟩, hS.F ht⟩) hS.2.2 dX11_world_52
  by_cases t_4 : k = 1
  · subst t_4
    refine lv_tableIn (tgt := 53) (off := 52) hx hb dX11_world_1 (by decide +kernel) (by decide +kernel) (by decide +kernel) (by decide +kernel) ?_
    refine lv_aload_n hx hb dX11_world_53 rfl (lv_at hl 0 rfl) ?_
    refine lv_aload_n hx hb dX11_world_54 rfl (lv_at hl 0 rfl) ?_
    refine va_get (D := (dC, dI)) (ci := 11) (v := .int 0) (C := RX11) (T := TX11) (N := 20) hx hb hts (fun w h => List.mem_cons_of_mem _ (List.mem_append_right _ (List.mem_append_left _ h))) hown hK hP 0 rfl rfl 9 (by decide +kernel) (hts (.fieldLink RX11 72 "SixNet" "nodeCount" "I") (List.mem_cons_of_mem _ (List.mem_append_left _ (List.mem_of_getElem? (i := 1) rfl)))) (fun _ h9 => h9) rfl dX11_world_55 ?_
    have hPc := hP.sub (ws' := [(h0, .inr (11, [f0, f1, f2, f3, f4, .ref hv, f6, f7, f8, .int 0, .int 0, .int 0, .int 0, f13, f14, f15, .int 0, .int 0, .int 0, .int 0]))]) [0] rfl
    have hDc := hD.sub (ws' := [(h0, .inr (11, [f0, f1, f2, f3, f4, .ref hv, f6, f7, f8, .int 0, .int 0, .int 0, .int 0, f13, f14, f15, .int 0, .int 0, .int 0, .int 0]))]) [0] (by decide +kernel) rfl
    have hKc := hK.sub (tys' := []) [] rfl
    have hFc := va_free (wc := [(h0, .inr (11, [f0, f1, f2, f3, f4, .ref hv, f6, f7, f8, .int 0, .int 0, .int 0, .int 0, f13, f14, f15, .int 0, .int 0, .int 0, .int 0]))]) hD hS hA [0] rfl
    have hr_6c : 0 + 0 ≤ 0 := by decide +kernel
    have hr_6s : 0 + 0 ≤ 0 := by decide +kernel
    refine va_calli (va_runV (As := [.int 0]) (rest := []) ⟨hx, hb, hml, hown, hts⟩ (k_X11_answer l dC dI s.heap.size h0 f0 f1 f2 f3 f4 (.ref hv) f6 f7 f8 (.int 0) (.int 0) (.int 0) (.int 0) f13 f14 f15 (.int 0) (.int 0) (.int 0) (.int 0) 0) (cwV 1 hts wq_X11_world_g1 rfl rfl rfl (by decide +kernel) ⟨Nat.le_of_ble_eq_true rfl, Nat.le_of_ble_eq_true rfl⟩) ⟨fun a U g mk q => by obtain ⟨q0, q1, qP, qK, qD⟩ := q; exact ⟨q0, q1, qP, va_K.moved (u := U) (U := U.calling g mk a) (Vm.Alike.refl U.vm) qK, qD⟩, va_recv hKc hPc (ci := 11) (q0 := 0) rfl rfl, fun U hU hW => ⟨rfl, by rw [hU], by rw [hU]; exact hPc, va_K.moved hW.alike hKc, hDc.weaken (fun _ _ _ _ => trivial)⟩⟩ rfl rfl hl.1 rfl (lv_room (Nat.le_of_ble_eq_true rfl)) dX11_world_58 ⟨hr_6c, hr_6s⟩) hS (fun q _ h => hFc q h) hFc (fun r_5 u t H1 locs ht hvm hw hB hz1 hk1 hS => ?_)
    obtain ⟨hP1, hK1, hD1⟩ := hB
    rw [ht] at hP1
    obtain ⟨hP, hD⟩ := va_join (wr := [(hv, .inr (9, [g1, .int 0]))]) (w1 := [(h0, .inr (11, [f0, f1, f2, f3, f4, .ref hv, f6, f7, f8, .int 0, .int 0, .int 0, .int 0, f13, f14, f15, .int 0, .int 0, .int 0, .int 0]))]) hP hD [0] [1] rfl rfl (by decide +kernel) (by decide +kernel) hk1 hFc hP1 hD1
    generalize H1 = H at hP hS ⊢
    have hP : va_P (dC, dI) vwCl [(hv, .inr (9, [g1, .int 0])), (h0, .inr (11, [f0, f1, f2, f3, f4, .ref hv, f6, f7, f8, .int 0, .int 0, .int 0, .int 0, f13, f14, f15, .int 0, .int 0, .int 0, .int 0]))] H := hP
    have hD : va_D A [(hv, .inr (9, [g1, .int 0])), (h0, .inr (11, [f0, f1, f2, f3, f4, .ref hv, f6, f7, f8, .int 0, .int 0, .int 0, .int 0, f13, f14, f15, .int 0, .int 0, .int 0, .int 0]))] := hD
    have hw : r_5 = 0 := hw
    subst hw
    exact W.iret (v := 0) hx hb hr (fun t ht hW => ⟨⟨0, (), rfl, (by decide), trivial⟩, hS.F ht⟩) hS.2.2 dX11_world_61
  by_cases t_7 : k = 2
  · subst t_7
    refine lv_tableIn (tgt := 62) (off := 61) hx hb dX11_world_1 (by decide +kernel) (by decide +kernel) (by decide +kernel) (by decide +kernel) ?_
    refine lv_aload_n hx hb dX11_world_62 rfl (lv_at hl 0 rfl) ?_
    refine lv_aload_n hx hb dX11_world_63 rfl (lv_at hl 0 rfl) ?_
    refine va_get (D := (dC, dI)) (ci := 11) (v := .int 0) (C := RX11) (T := TX11) (N := 20) hx hb hts (fun w h => List.mem_cons_of_mem _ (List.mem_append_right _ (List.mem_append_left _ h))) hown hK hP 0 rfl rfl 10 (by decide +kernel) (hts (.fieldLink RX11 90 "SixNet" "linkCount" "I") (List.mem_cons_of_mem _ (List.mem_append_left _ (List.mem_of_getElem? (i := 2) rfl)))) (fun _ h9 => h9) rfl dX11_world_64 ?_
    have hPc := hP.sub (ws' := [(h0, .inr (11, [f0, f1, f2, f3, f4, .ref hv, f6, f7, f8, .int 0, .int 0, .int 0, .int 0, f13, f14, f15, .int 0, .int 0, .int 0, .int 0]))]) [0] rfl
    have hDc := hD.sub (ws' := [(h0, .inr (11, [f0, f1, f2, f3, f4, .ref hv, f6, f7, f8, .int 0, .int 0, .int 0, .int 0, f13, f14, f15, .int 0, .int 0, .int 0, .int 0]))]) [0] (by decide +kernel) rfl
    have hKc := hK.sub (tys' := []) [] rfl
    have hFc := va_free (wc := [(h0, .inr (11, [f0, f1, f2, f3, f4, .ref hv, f6, f7, f8, .int 0, .int 0, .int 0, .int 0, f13, f14, f15, .int 0, .int 0, .int 0, .int 0]))]) hD hS hA [0] rfl
    have hr_9c : 0 + 0 ≤ 0 := by decide +kernel
    have hr_9s : 0 + 0 ≤ 0 := by decide +kernel
    refine va_calli (va_runV (As := [.int 0]) (rest := []) ⟨hx, hb, hml, hown, hts⟩ (k_X11_answer l dC dI s.heap.size h0 f0 f1 f2 f3 f4 (.ref hv) f6 f7 f8 (.int 0) (.int 0) (.int 0) (.int 0) f13 f14 f15 (.int 0) (.int 0) (.int 0) (.int 0) 0) (cwV 1 hts wq_X11_world_g1 rfl rfl rfl (by decide +kernel) ⟨Nat.le_of_ble_eq_true rfl, Nat.le_of_ble_eq_true rfl⟩) ⟨fun a U g mk q => by obtain ⟨q0, q1, qP, qK, qD⟩ := q; exact ⟨q0, q1, qP, va_K.moved (u := U) (U := U.calling g mk a) (Vm.Alike.refl U.vm) qK, qD⟩, va_recv hKc hPc (ci := 11) (q0 := 0) rfl rfl, fun U hU hW => ⟨rfl, by rw [hU], by rw [hU]; exact hPc, va_K.moved hW.alike hKc, hDc.weaken (fun _ _ _ _ => trivial)⟩⟩ rfl rfl hl.1 rfl (lv_room (Nat.le_of_ble_eq_true rfl)) dX11_world_67 ⟨hr_9c, hr_9s⟩) hS (fun q _ h => hFc q h) hFc (fun r_8 u t H1 locs ht hvm hw hB hz1 hk1 hS => ?_)
    obtain ⟨hP1, hK1, hD1⟩ := hB
    rw [ht] at hP1
    obtain ⟨hP, hD⟩ := va_join (wr := [(hv, .inr (9, [g1, .int 0]))]) (w1 := [(h0, .inr (11, [f0, f1, f2, f3, f4, .ref hv, f6, f7, f8, .int 0, .int 0, .int 0, .int 0, f13, f14, f15, .int 0, .int 0, .int 0, .int 0]))]) hP hD [0] [1] rfl rfl (by decide +kernel) (by decide +kernel) hk1 hFc hP1 hD1
    generalize H1 = H at hP hS ⊢
    have hP : va_P (dC, dI) vwCl [(hv, .inr (9, [g1, .int 0])), (h0, .inr (11, [f0, f1, f2, f3, f4, .ref hv, f6, f7, f8, .int 0, .int 0, .int 0, .int 0, f13, f14, f15, .int 0, .int 0, .int 0, .int 0]))] H := hP
    have hD : va_D A [(hv, .inr (9, [g1, .int 0])), (h0, .inr (11, [f0, f1, f2, f3, f4, .ref hv, f6, f7, f8, .int 0, .int 0, .int 0, .int 0, f13, f14, f15, .int 0, .int 0, .int 0, .int 0]))] := hD
    have hw : r_8 = 0 := hw
    subst hw
    exact W.iret (v := 0) hx hb hr (fun t ht hW => ⟨⟨0, (), rfl, (by decide), trivial⟩, hS.F ht⟩) hS.2.2 dX11_world_70
  by_cases t_10 : k = 3
  · subst t_10
    refine lv_tableIn (tgt := 71) (off := 70) hx hb dX11_world_1 (by decide +kernel) (by decide +kernel) (by decide +kernel) (by decide +kernel) ?_
    refine lv_aload_n hx hb dX11_world_71 rfl (lv_at hl 0 rfl) ?_
    refine lv_aload_n hx hb dX11_world_72 rfl (lv_at hl 0 rfl) ?_
    refine va_get (D := (dC, dI)) (ci := 11) (v := .int 0) (C := RX11) (T := TX11) (N := 20) hx hb hts (fun w h => List.mem_cons_of_mem _ (List.mem_append_right _ (List.mem_append_left _ h))) hown hK hP 0 rfl rfl 11 (by decide +kernel) (hts (.fieldLink RX11 110 "SixNet" "faceCount" "I") (List.mem_cons_of_mem _ (List.mem_append_left _ (List.mem_of_getElem? (i := 3) rfl)))) (fun _ h9 => h9) rfl dX11_world_73 ?_
    have hPc := hP.sub (ws' := [(h0, .inr (11, [f0, f1, f2, f3, f4, .ref hv, f6, f7, f8, .int 0, .int 0, .int 0, .int 0, f13, f14, f15, .int 0, .int 0, .int 0, .int 0]))]) [0] rfl
    have hDc := hD.sub (ws' := [(h0, .inr (11, [f0, f1, f2, f3, f4, .ref hv, f6, f7, f8, .int 0, .int 0, .int 0, .int 0, f13, f14, f15, .int 0, .int 0, .int 0, .int 0]))]) [0] (by decide +kernel) rfl
    have hKc := hK.sub (tys' := []) [] rfl
    have hFc := va_free (wc := [(h0, .inr (11, [f0, f1, f2, f3, f4, .ref hv, f6, f7, f8, .int 0, .int 0, .int 0, .int 0, f13, f14, f15, .int 0, .int 0, .int 0, .int 0]))]) hD hS hA [0] rfl
    have hr_12c : 0 + 0 ≤ 0 := by decide +kernel
    have hr_12s : 0 + 0 ≤ 0 := by decide +kernel
    refine va_calli (va_runV (As := [.int 0]) (rest := []) ⟨hx, hb, hml, hown, hts⟩ (k_X11_answer l dC dI s.heap.size h0 f0 f1 f2 f3 f4 (.ref hv) f6 f7 f8 (.int 0) (.int 0) (.int 0) (.int 0) f13 f14 f15 (.int 0) (.int 0) (.int 0) (.int 0) 0) (cwV 1 hts wq_X11_world_g1 rfl rfl rfl (by decide +kernel) ⟨Nat.le_of_ble_eq_true rfl, Nat.le_of_ble_eq_true rfl⟩) ⟨fun a U g mk q => by obtain ⟨q0, q1, qP, qK, qD⟩ := q; exact ⟨q0, q1, qP, va_K.moved (u := U) (U := U.calling g mk a) (Vm.Alike.refl U.vm) qK, qD⟩, va_recv hKc hPc (ci := 11) (q0 := 0) rfl rfl, fun U hU hW => ⟨rfl, by rw [hU], by rw [hU]; exact hPc, va_K.moved hW.alike hKc, hDc.weaken (fun _ _ _ _ => trivial)⟩⟩ rfl rfl hl.1 rfl (lv_room (Nat.le_of_ble_eq_true rfl)) dX11_world_76 ⟨hr_12c, hr_12s⟩) hS (fun q _ h => hFc q h) hFc (fun r_11 u t H1 locs ht hvm hw hB hz1 hk1 hS => ?_)
    obtain ⟨hP1, hK1, hD1⟩ := hB
    rw [ht] at hP1
    obtain ⟨hP, hD⟩ := va_join (wr := [(hv, .inr (9, [g1, .int 0]))]) (w1 := [(h0, .inr (11, [f0, f1, f2, f3, f4, .ref hv, f6, f7, f8, .int 0, .int 0, .int 0, .int 0, f13, f14, f15, .int 0, .int 0, .int 0, .int 0]))]) hP hD [0] [1] rfl rfl (by decide +kernel) (by decide +kernel) hk1 hFc hP1 hD1
    generalize H1 = H at hP hS ⊢
    have hP : va_P (dC, dI) vwCl [(hv, .inr (9, [g1, .int 0])), (h0, .inr (11, [f0, f1, f2, f3, f4, .ref hv, f6, f7, f8, .int 0, .int 0, .int 0, .int 0, f13, f14, f15, .int 0, .int 0, .int 0, .int 0]))] H := hP
    have hD : va_D A [(hv, .inr (9, [g1, .int 0])), (h0, .inr (11, [f0, f1, f2, f3, f4, .ref hv, f6, f7, f8, .int 0, .int 0, .int 0, .int 0, f13, f14, f15, .int 0, .int 0, .int 0, .int 0]))] := hD
    have hw : r_11 = 0 := hw
    subst hw
    exact W.iret (v := 0) hx hb hr (fun t ht hW => ⟨⟨0, (), rfl, (by decide), trivial⟩, hS.F ht⟩) hS.2.2 dX11_world_79
  by_cases t_13 : k = 4
  · subst t_13
    refine lv_tableIn (tgt := 80) (off := 79) hx hb dX11_world_1 (by decide +kernel) (by decide +kernel) (by decide +kernel) (by decide +kernel) ?_
    refine lv_aload_n hx hb dX11_world_80 rfl (lv_at hl 0 rfl) ?_
    refine lv_aload_n hx hb dX11_world_81 rfl (lv_at hl 0 rfl) ?_
    refine va_get (D := (dC, dI)) (ci := 11) (v := .int 0) (C := RX11) (T := TX11) (N := 20) hx hb hts (fun w h => List.mem_cons_of_mem _ (List.mem_append_right _ (List.mem_append_left _ h))) hown hK hP 0 rfl rfl 17 (by decide +kernel) (hts (.fieldLink RX11 348 "SixNet" "framesSent" "I") (List.mem_cons_of_mem _ (List.mem_append_left _ (List.mem_of_getElem? (i := 4) rfl)))) (fun _ h9 => h9) rfl dX11_world_82 ?_
    have hPc := hP.sub (ws' := [(h0, .inr (11, [f0, f1, f2, f3, f4, .ref hv, f6, f7, f8, .int 0, .int 0, .int 0, .int 0, f13, f14, f15, .int 0, .int 0, .int 0, .int 0]))]) [0] rfl
    have hDc := hD.sub (ws' := [(h0, .inr (11, [f0, f1, f2, f3, f4, .ref hv, f6, f7, f8, .int 0, .int 0, .int 0, .int 0, f13, f14, f15, .int 0, .int 0, .int 0, .int 0]))]) [0] (by decide +kernel) rfl
    have hKc := hK.sub (tys' := []) [] rfl
    have hFc := va_free (wc := [(h0, .inr (11, [f0, f1, f2, f3, f4, .ref hv, f6, f7, f8, .int 0, .int 0, .int 0, .int 0, f13, f14, f15, .int 0, .int 0, .int 0, .int 0]))]) hD hS hA [0] rfl
    have hr_15c : 0 + 0 ≤ 0 := by decide +kernel
    have hr_15s : 0 + 0 ≤ 0 := by decide +kernel
    refine va_calli (va_runV (As := [.int 0]) (rest := []) ⟨hx, hb, hml, hown, hts⟩ (k_X11_answer l dC dI s.heap.size h0 f0 f1 f2 f3 f4 (.ref hv) f6 f7 f8 (.int 0) (.int 0) (.int 0) (.int 0) f13 f14 f15 (.int 0) (.int 0) (.int 0) (.int 0) 0) (cwV 1 hts wq_X11_world_g1 rfl rfl rfl (by decide +kernel) ⟨Nat.le_of_ble_eq_true rfl, Nat.le_of_ble_eq_true rfl⟩) ⟨fun a U g mk q => by obtain ⟨q0, q1, qP, qK, qD⟩ := q; exact ⟨q0, q1, qP, va_K.moved (u := U) (U := U.calling g mk a) (Vm.Alike.refl U.vm) qK, qD⟩, va_recv hKc hPc (ci := 11) (q0 := 0) rfl rfl, fun U hU hW => ⟨rfl, by rw [hU], by rw [hU]; exact hPc, va_K.moved hW.alike hKc, hDc.weaken (fun _ _ _ _ => trivial)⟩⟩ rfl rfl hl.1 rfl (lv_room (Nat.le_of_ble_eq_true rfl)) dX11_world_85 ⟨hr_15c, hr_15s⟩) hS (fun q _ h => hFc q h) hFc (fun r_14 u t H1 locs ht hvm hw hB hz1 hk1 hS => ?_)
    obtain ⟨hP1, hK1, hD1⟩ := hB
    rw [ht] at hP1
    obtain ⟨hP, hD⟩ := va_join (wr := [(hv, .inr (9, [g1, .int 0]))]) (w1 := [(h0, .inr (11, [f0, f1, f2, f3, f4, .ref hv, f6, f7, f8, .int 0, .int 0, .int 0, .int 0, f13, f14, f15, .int 0, .int 0, .int 0, .int 0]))]) hP hD [0] [1] rfl rfl (by decide +kernel) (by decide +kernel) hk1 hFc hP1 hD1
    generalize H1 = H at hP hS ⊢
    have hP : va_P (dC, dI) vwCl [(hv, .inr (9, [g1, .int 0])), (h0, .inr (11, [f0, f1, f2, f3, f4, .ref hv, f6, f7, f8, .int 0, .int 0, .int 0, .int 0, f13, f14, f15, .int 0, .int 0, .int 0, .int 0]))] H := hP
    have hD : va_D A [(hv, .inr (9, [g1, .int 0])), (h0, .inr (11, [f0, f1, f2, f3, f4, .ref hv, f6, f7, f8, .int 0, .int 0, .int 0, .int 0, f13, f14, f15, .int 0, .int 0, .int 0, .int 0]))] := hD
    have hw : r_14 = 0 := hw
    subst hw
    exact W.iret (v := 0) hx hb hr (fun t ht hW => ⟨⟨0, (), rfl, (by decide), trivial⟩, hS.F ht⟩) hS.2.2 dX11_world_88
  by_cases t_16 : k = 5
  · subst t_16
    refine lv_tableIn (tgt := 89) (off := 88) hx hb dX11_world_1 (by decide +kernel) (by decide +kernel) (by decide +kernel) (by decide +kernel) ?_
    refine lv_aload_n hx hb dX11_world_89 rfl (lv_at hl 0 rfl) ?_
    refine lv_aload_n hx hb dX11_world_90 rfl (lv_at hl 0 rfl) ?_
    refine va_get (D := (dC, dI)) (ci := 11) (v := .int 0) (C := RX11) (T := TX11) (N := 20) hx hb hts (fun w h => List.mem_cons_of_mem _ (List.mem_append_right _ (List.mem_append_left _ h))) hown hK hP 0 rfl rfl 18 (by decide +kernel) (hts (.fieldLink RX11 351 "SixNet" "lost" "I") (List.mem_cons_of_mem _ (List.mem_append_left _ (List.mem_of_getElem? (i := 5) rfl)))) (fun _ h9 => h9) rfl dX11_world_91 ?_
    have hPc := hP.sub (ws' := [(h0, .inr (11, [f0, f1, f2, f3, f4, .ref hv, f6, f7, f8, .int 0, .int 0, .int 0, .int 0, f13, f14, f15, .int 0, .int 0, .int 0, .int 0]))]) [0] rfl
    have hDc := hD.sub (ws' := [(h0, .inr (11, [f0, f1, f2, f3, f4, .ref hv, f6, f7, f8, .int 0, .int 0, .int 0, .int 0, f13, f14, f15, .int 0, .int 0, .int 0, .int 0]))]) [0] (by decide +kernel) rfl
    have hKc := hK.sub (tys' := []) [] rfl
    have hFc := va_free (wc := [(h0, .inr (11, [f0, f1, f2, f3, f4, .ref hv, f6, f7, f8, .int 0, .int 0, .int 0, .int 0, f13, f14, f15, .int 0, .int 0, .int 0, .int 0]))]) hD hS hA [0] rfl
    have hr_18c : 0 + 0 ≤ 0 := by decide +kernel
    have hr_18s : 0 + 0 ≤ 0 := by decide +kernel
    refine va_calli (va_runV (As := [.int 0]) (rest := []) ⟨hx, hb, hml, hown, hts⟩ (k_X11_answer l dC dI s.heap.size h0 f0 f1 f2 f3 f4 (.ref hv) f6 f7 f8 (.int 0) (.int 0) (.int 0) (.int 0) f13 f14 f15 (.int 0) (.int 0) (.int 0) (.int 0) 0) (cwV 1 hts wq_X11_world_g1 rfl rfl rfl (by decide +kernel) ⟨Nat.le_of_ble_eq_true rfl, Nat.le_of_ble_eq_true rfl⟩) ⟨fun a U g mk q => by obtain ⟨q0, q1, qP, qK, qD⟩ := q; exact ⟨q0, q1, qP, va_K.moved (u := U) (U := U.calling g mk a) (Vm.Alike.refl U.vm) qK, qD⟩, va_recv hKc hPc (ci := 11) (q0 := 0) rfl rfl, fun U hU hW => ⟨rfl, by rw [hU], by rw [hU]; exact hPc, va_K.moved hW.alike hKc, hDc.weaken (fun _ _ _ _ => trivial)⟩⟩ rfl rfl hl.1 rfl (lv_room (Nat.le_of_ble_eq_true rfl)) dX11_world_94 ⟨hr_18c, hr_18s⟩) hS (fun q _ h => hFc q h) hFc (fun r_17 u t H1 locs ht hvm hw hB hz1 hk1 hS => ?_)
    obtain ⟨hP1, hK1, hD1⟩ := hB
    rw [ht] at hP1
    obtain ⟨hP, hD⟩ := va_join (wr := [(hv, .inr (9, [g1, .int 0]))]) (w1 := [(h0, .inr (11, [f0, f1, f2, f3, f4, .ref hv, f6, f7, f8, .int 0, .int 0, .int 0, .int 0, f13, f14, f15, .int 0, .int 0, .int 0, .int 0]))]) hP hD [0] [1] rfl rfl (by decide +kernel) (by decide +kernel) hk1 hFc hP1 hD1
    generalize H1 = H at hP hS ⊢
    have hP : va_P (dC, dI) vwCl [(hv, .inr (9, [g1, .int 0])), (h0, .inr (11, [f0, f1, f2, f3, f4, .ref hv, f6, f7, f8, .int 0, .int 0, .int 0, .int 0, f13, f14, f15, .int 0, .int 0, .int 0, .int 0]))] H := hP
    have hD : va_D A [(hv, .inr (9, [g1, .int 0])), (h0, .inr (11, [f0, f1, f2, f3, f4, .ref hv, f6, f7, f8, .int 0, .int 0, .int 0, .int 0, f13, f14, f15, .int 0, .int 0, .int 0, .int 0]))] := hD
    have hw : r_17 = 0 := hw
    subst hw
    exact W.iret (v := 0) hx hb hr (fun t ht hW => ⟨⟨0, (), rfl, (by decide), trivial⟩, hS.F ht⟩) hS.2.2 dX11_world_97
  by_cases t_19 : k = 6
  · subst t_19
    refine lv_tableIn (tgt := 98) (off := 97) hx hb dX11_world_1 (by decide +kernel) (by decide +kernel) (by decide +kernel) (by decide +kernel) ?_
    refine lv_aload_n hx hb dX11_world_98 rfl (lv_at hl 0 rfl) ?_
    refine lv_aload_n hx hb dX11_world_99 rfl (lv_at hl 0 rfl) ?_
    refine va_get (D := (dC, dI)) (ci := 11) (v := .ref hv) (C := RX11) (T := TX11) (N := 20) hx hb hts (fun w h => List.mem_cons_of_mem _ (List.mem_append_right _ (List.mem_append_left _ h))) hown hK hP 0 rfl rfl 5 (by decide +kernel) (hts (.fieldLink RX11 42 "SixNet" "waits" "LSixNet$Row;") (List.mem_cons_of_mem _ (List.mem_append_left _ (List.mem_of_getElem? (i := 6) rfl)))) (fun _ h9 => h9) rfl dX11_world_100 ?_
    refine va_get (D := (dC, dI)) (ci := 9) (v := .int 0) (C := RX9) (T := TX9) (N := 2) hx hb hts (fun w h => List.mem_cons_of_mem _ (List.mem_append_right _ (List.mem_append_right _ (List.mem_append_right _ (List.mem_append_left _ h))))) hown hK hP 1 rfl rfl 1 (by decide +kernel) (hts (.fieldLink RX11 229 "SixNet$Row" "count" "I") (List.mem_cons_of_mem _ (List.mem_append_left _ (List.mem_of_getElem? (i := 7) rfl)))) (fun _ h9 => h9) rfl dX11_world_103 ?_
    have hPc := hP.sub (ws' := [(h0, .inr (11, [f0, f1, f2, f3, f4, .ref hv, f6, f7, f8, .int 0, .int 0, .int 0, .int 0, f13, f14, f15, .int 0, .int 0, .int 0, .int 0]))]) [0] rfl
    have hDc := hD.sub (ws' := [(h0, .inr (11, [f0, f1, f2, f3, f4, .ref hv, f6, f7, f8, .int 0, .int 0, .int 0, .int 0, f13, f14, f15, .int 0, .int 0, .int 0, .int 0]))]) [0] (by decide +kernel) rfl
    have hKc := hK.sub (tys' := []) [] rfl
    have hFc := va_free (wc := [(h0, .inr (11, [f0, f1, f2, f3, f4, .ref hv, f6, f7, f8, .int 0, .int 0, .int 0, .int 0, f13, f14, f15, .int 0, .int 0, .int 0, .int 0]))]) hD hS hA [0] rfl
    have hr_21c : 0 + 0 ≤ 0 := by decide +kernel
    have hr_21s : 0 + 0 ≤ 0 := by decide +kernel
    refine va_calli (va_runV (As := [.int 0]) (rest := []) ⟨hx, hb, hml, hown, hts⟩ (k_X11_answer l dC dI s.heap.size h0 f0 f1 f2 f3 f4 (.ref hv) f6 f7 f8 (.int 0) (.int 0) (.int 0) (.int 0) f13 f14 f15 (.int 0) (.int 0) (.int 0) (.int 0) 0) (cwV 1 hts wq_X11_world_g1 rfl rfl rfl (by decide +kernel) ⟨Nat.le_of_ble_eq_true rfl, Nat.le_of_ble_eq_true rfl⟩) ⟨fun a U g mk q => by obtain ⟨q0, q1, qP, qK, qD⟩ := q; exact ⟨q0, q1, qP, va_K.moved (u := U) (U := U.calling g mk a) (Vm.Alike.refl U.vm) qK, qD⟩, va_recv hKc hPc (ci := 11) (q0 := 0) rfl rfl, fun U hU hW => ⟨rfl, by rw [hU], by rw [hU]; exact hPc, va_K.moved hW.alike hKc, hDc.weaken (fun _ _ _ _ => trivial)⟩⟩ rfl rfl hl.1 rfl (lv_room (Nat.le_of_ble_eq_true rfl)) dX11_world_106 ⟨hr_21c, hr_21s⟩) hS (fun q _ h => hFc q h) hFc (fun r_20 u t H1 locs ht hvm hw hB hz1 hk1 hS => ?_)
    obtain ⟨hP1, hK1, hD1⟩ := hB
    rw [ht] at hP1
    obtain ⟨hP, hD⟩ := va_join (wr := [(hv, .inr (9, [g1, .int 0]))]) (w1 := [(h0, .inr (11, [f0, f1, f2, f3, f4, .ref hv, f6, f7, f8, .int 0, .int 0, .int 0, .int 0, f13, f14, f15, .int 0, .int 0, .int 0, .int 0]))]) hP hD [0] [1] rfl rfl (by decide +kernel) (by decide +kernel) hk1 hFc hP1 hD1
    generalize H1 = H at hP hS ⊢
    have hP : va_P (dC, dI) vwCl [(hv, .inr (9, [g1, .int 0])), (h0, .inr (11, [f0, f1, f2, f3, f4, .ref hv, f6, f7, f8, .int 0, .int 0, .int 0, .int 0, f13, f14, f15, .int 0, .int 0, .int 0, .int 0]))] H := hP
    have hD : va_D A [(hv, .inr (9, [g1, .int 0])), (h0, .inr (11, [f0, f1, f2, f3, f4, .ref hv, f6, f7, f8, .int 0, .int 0, .int 0, .int 0, f13, f14, f15, .int 0, .int 0, .int 0, .int 0]))] := hD
    have hw : r_20 = 0 := hw
    subst hw
    exact W.iret (v := 0) hx hb hr (fun t ht hW => ⟨⟨0, (), rfl, (by decide), trivial⟩, hS.F ht⟩) hS.2.2 dX11_world_109
  have et_1 : k.toInt ≠ 0 := fun h => t_1 (Int32.toInt_inj.mp (h.trans (by decide +kernel)))
  have et_4 : k.toInt ≠ 1 := fun h => t_4 (Int32.toInt_inj.mp (h.trans (by decide +kernel)))
  have et_7 : k.toInt ≠ 2 := fun h => t_7 (Int32.toInt_inj.mp (h.trans (by decide +kernel)))
  have et_10 : k.toInt ≠ 3 := fun h => t_10 (Int32.toInt_inj.mp (h.trans (by decide +kernel)))
  have et_13 : k.toInt ≠ 4 := fun h => t_13 (Int32.toInt_inj.mp (h.trans (by decide +kernel)))
  have et_16 : k.toInt ≠ 5 := fun h => t_16 (Int32.toInt_inj.mp (h.trans (by decide +kernel)))
  have et_19 : k.toInt ≠ 6 := fun h => t_19 (Int32.toInt_inj.mp (h.trans (by decide +kernel)))
  refine lv_tableOut (tgt := 110) hx hb dX11_world_1 (by omega) (by decide +kernel) ?_
  refine lv_aload_n hx hb dX11_world_110 rfl (lv_at hl 0 rfl) ?_
  refine lv_iconst (v := 4) hx hb dX11_world_111 (by decide +kernel) ?_
  have hPc := hP.sub (ws' := [(h0, .inr (11, [f0, f1, f2, f3, f4, .ref hv, f6, f7, f8, .int 0, .int 0, .int 0, .int 0, f13, f14, f15, .int 0, .int 0, .int 0, .int 0]))]) [0] rfl
  have hDc := hD.sub (ws' := [(h0, .inr (11, [f0, f1, f2, f3, f4, .ref hv, f6, f7, f8, .int 0, .int 0, .int 0, .int 0, f13, f14, f15, .int 0, .int 0, .int 0, .int 0]))]) [0] (by decide +kernel) rfl
  have hKc := hK.sub (tys' := []) [] rfl
  have hFc := va_free (wc := [(h0, .inr (11, [f0, f1, f2, f3, f4, .ref hv, f6, f7, f8, .int 0, .int 0, .int 0, .int 0, f13, f14, f15, .int 0, .int 0, .int 0, .int 0]))]) hD hS hA [0] rfl
  have hr_23c : 0 + 0 ≤ 0 := by decide +kernel
  have hr_23s : 0 + 0 ≤ 0 := by decide +kernel
  refine va_calli (va_runV (As := [.int 4]) (rest := []) ⟨hx, hb, hml, hown, hts⟩ (k_X11_refuse l dC dI s.heap.size h0 f0 f1 f2 f3 f4 (.ref hv) f6 f7 f8 (.int 0) (.int 0) (.int 0) (.int 0) f13 f14 f15 (.int 0) (.int 0) (.int 0) (.int 0) 4) (cwV 1 hts wq_X11_world_g3 rfl rfl rfl (by decide +kernel) ⟨Nat.le_of_ble_eq_true rfl, Nat.le_of_ble_eq_true rfl⟩) ⟨fun a U g mk q => by obtain ⟨q0, q1, qP, qK, qD⟩ := q; exact ⟨q0, q1, qP, va_K.moved (u := U) (U := U.calling g mk a) (Vm.Alike.refl U.vm) qK, qD⟩, va_recv hKc hPc (ci := 11) (q0 := 0) rfl rfl, fun U hU hW => ⟨rfl, by rw [hU], by rw [hU]; exact hPc, va_K.moved hW.alike hKc, hDc.weaken (fun _ _ _ _ => trivial)⟩⟩ rfl rfl hl.1 rfl (lv_room (Nat.le_of_ble_eq_true rfl)) dX11_world_112 ⟨hr_23c, hr_23s⟩) hS (fun q _ h => hFc q h) hFc (fun r_22 u t H1 locs ht hvm hw hB hz1 hk1 hS => ?_)
  obtain ⟨hP1, hK1, hD1⟩ := hB
  rw [ht] at hP1
  obtain ⟨hP, hD⟩ := va_join (wr := [(hv, .inr (9, [g1, .int 0]))]) (w1 := [(h0, .inr (11, [f0, f1, f2, f3, f4, .ref hv, f6, f7, f8, .int 0, .int 0, .int 0, .int 0, f13, f14, f15, .int 0, .int 0, .int 0, .int 4]))]) hP hD [0] [1] rfl rfl (by decide +kernel) (by decide +kernel) hk1 hFc hP1 hD1
  generalize H1 = H at hP hS ⊢
  have hP : va_P (dC, dI) vwCl [(hv, .inr (9, [g1, .int 0])), (h0, .inr (11, [f0, f1, f2, f3, f4, .ref hv, f6, f7, f8, .int 0, .int 0, .int 0, .int 0, f13, f14, f15, .int 0, .int 0, .int 0, .int 4]))] H := hP
  have hD : va_D A [(hv, .inr (9, [g1, .int 0])), (h0, .inr (11, [f0, f1, f2, f3, f4, .ref hv, f6, f7, f8, .int 0, .int 0, .int 0, .int 0, f13, f14, f15, .int 0, .int 0, .int 0, .int 4]))] := hD
  have hw : r_22 = -1 := hw
  subst hw
  exact W.iret (v := (-1)) hx hb hr (fun t ht hW => ⟨⟨(-1), (), rfl, (by simp only [Int32.le_iff_toInt_le, show (0 : Int32).toInt = 0 from rfl, show (6 : Int32).toInt = 6 from rfl]; split <;> first | rfl | omega), trivial⟩, hS.F ht⟩) hS.2.2 dX11_world_115
def wq_X11_node_0_o : List Cond := [.fieldLink RX11 72 "SixNet" "nodeCount" "I", .fieldLink RX11 11 "SixNet" "nodes" "[LSixNet$Node;", .classLink RX11 9 RX5, .instantiable RX5 15, .initialized RX5, .methodLink RX11 80 yX5_init, .instanceMethod yX5_init]
def wq_X11_node_0 : List Cond := .code yX11_node cX11_node 2 (some .int) :: (wq_X11_node_0_o ++ (wsX110 ++ (wsX50 ++ (wq_X5_init_0 ++ ((wsV RX11 83 RX11 yX11_answer wq_X11_answer) ++ ([]))))))
set_option maxRecDepth 20000 in
theorem gt_wq_X11_node_0 : GoodIn lw_tbl wq_X11_node_0 := goodIn_ca (goodIn_p (.code yX11_node cX11_node 2 (some .int) :: wq_X11_node_0_o) [298] (by decide +kernel) (by decide +kernel)) (goodIn_app gt_wsX110 (goodIn_app gt_wsX50 (goodIn_app gt_wq_X5_init_0 (goodIn_app (goodIn_app (goodIn_of _ (by decide +kernel)) gt_wq_X11_answer) (fun _ h => absurd h List.not_mem_nil)))))
set_option maxRecDepth 20000 in
theorem wq_X11_node_0_g2 : GoodIn wq_X11_node_0 wq_X5_init_0 := goodIn_sub (fun w h => List.mem_cons_of_mem _ (List.mem_append_right _ (List.mem_append_right _ (List.mem_append_right _ (List.mem_append_left _ h))))) (by decide +kernel)
set_option maxRecDepth 20000 in
theorem wq_X11_node_0_g3 : GoodIn wq_X11_node_0 (wsV RX11 83 RX11 yX11_answer wq_X11_answer) := goodIn_sub (fun w h => List.mem_cons_of_mem _ (List.mem_append_right _ (List.mem_append_right _ (List.mem_append_right _ (List.mem_append_right _ (List.mem_append_left _ h)))))) (by decide +kernel)
set_option maxHeartbeats 4000000 in
set_option maxRecDepth 100000 in
theorem k_X11_node_0 (l : Launch) (dC : Nat → ClassId) (dI : Nat → Nat → Nat) (sz : Nat) (h0 : Nat) (f1 : Value) (f2 : Value) (f3 : Value) (f4 : Value) (f5 : Value) (f6 : Value) (f7 : Value) (f8 : Value) (f13 : Value) (f14 : Value) (f15 : Value) (hn : Nat) (cN : ClassId) : Met l yX11_node wq_X11_node_0 ({ frames := 10, cells := 12, slots := 87, locals := 1200 }) (va_Pc [.ref h0, .int 0] (fun U => U.heap.size = sz ∧ va_P (dC, dI) vwCl [(h0, .inr (11, [.ref hn, f1, f2, f3, f4, f5, f6, f7, f8, .int 0, .int 0, .int 0, .int 0, f13, f14, f15, .int 0, .int 0, .int 0, .int 0])), (hn, .inl (cN, 12, .inr (.inr (.inr (.inr (fun _ => none))))))] U.heap ∧ va_K (dC, dI) vwCl [(cN, .object RX5)] U ∧ va_D (fun _ => True) [(h0, .inr (11, [.ref hn, f1, f2, f3, f4, f5, f6, f7, f8, .int 0, .int 0, .int 0, .int 0, f13, f14, f15, .int 0, .int 0, .int 0, .int 0])), (hn, .inl (cN, 12, .inr (.inr (.inr (.inr (fun _ => none))))))] ∧ va_AO RX7 U ∧ va_AO RX1 U ∧ va_AO RX8 U ∧ va_Nw (.methodLinkNest RX5 19 yX4_init "SixNet") U)) (va_Qi (fun (r : Int32) (_ : Unit) => r = 0) (fun (_ : Unit) (_ : State) => True) (va_A [(h0, .inr (11, [.ref hn, f1, f2, f3, f4, f5, f6, f7, f8, .int 0, .int 0, .int 0, .int 0, f13, f14, f15, .int 0, .int 0, .int 0, .int 0])), (hn, .inl (cN, 12, .inr (.inr (.inr (.inr (fun _ => none))))))] sz)) 12 87 (va_A [(h0, .inr (11, [.ref hn, f1, f2, f3, f4, f5, f6, f7, f8, .int 0, .int 0, .int 0, .int 0, f13, f14, f15, .int 0, .int 0, .int 0, .int 0])), (hn, .inl (cN, 12, .inr (.inr (.inr (.inr (fun _ => none))))))] sz) := by
  refine Met.ofW (cc := cX11_node) (maxL := 2) (ret := (some .int)) (by decide +kernel) rfl ?_
  intro p e s m args below meth c s₁ B hml hv
  obtain ⟨rfl, hsz, hP, hK, hD0, hpr0, hpr1, hpr2, hpr3⟩ := hv
  have hx := B.exec
  have hb := B.bytes
  have hr := B.returns
  have hts := atoms_spec (ws := wq_X11_node_0) B.pre
  have hown : s.vm.findClass RX11 = some m.cls := findClass_of_methodNamed B.named
  have hlocks := B.notSynchronized
  subst hsz
  have hD := hD0.self (sz := s.heap.size)
  generalize hAe : va_A [(h0, .inr (11, [.ref hn, f1, f2, f3, f4, f5, f6, f7, f8, .int 0, .int 0, .int 0, .int 0, f13, f14, f15, .int 0, .int 0, .int 0, .int 0])), (hn, .inl (cN, 12, .inr (.inr (.inr (.inr (fun _ => none))))))] s.heap.size = A at hD ⊢
  have hA : ∀ q : Nat, s.heap.size ≤ q → A q := fun q h => by rw [← hAe]; exact Or.inr h
  have hS : va_S A s.heap s.heap [] := va_S.rf
  have hP : va_P (dC, dI) vwCl [(h0, .inr (11, [.ref hn, f1, f2, f3, f4, f5, f6, f7, f8, .int 0, .int 0, .int 0, .int 0, f13, f14, f15, .int 0, .int 0, .int 0, .int 0])), (hn, .inl (cN, 12, .inr (.inr (.inr (.inr (fun _ => none))))))] s.heap := hP
  have hl := lv_entry ([.ref h0, .int 0]) (n := 2) (Nat.le_of_ble_eq_true rfl)
  rw [lg_entry_eq]
  generalize (lg_sl ([.ref h0, .int 0]) ++ List.replicate (2 - (lg_sl ([.ref h0, .int 0])).length) Slot.unset).toArray = ls at hl ⊢
  have hl : lv_has ls 2 [(0, .ref h0), (1, .int 0)] := hl
  refine lv_aload_n hx hb dX11_node_0 rfl (lv_at hl 0 rfl) ?_
  refine va_get (D := (dC, dI)) (ci := 11) (v := .int 0) (C := RX11) (T := TX11) (N := 20) hx hb hts (fun w h => List.mem_cons_of_mem _ (List.mem_append_right _ (List.mem_append_left _ h))) hown hK hP 0 rfl rfl 9 (by decide +kernel) (hts (.fieldLink RX11 72 "SixNet" "nodeCount" "I") (List.mem_cons_of_mem _ (List.mem_append_left _ (List.mem_of_getElem? (i := 0) rfl)))) (fun _ h9 => h9) rfl dX11_node_1 ?_
  refine lv_bipush (v := 12) hx hb dX11_node_4 (by decide +kernel) ?_
  refine lv_icmp_lt (tgt := 15) hx hb dX11_node_6 (by decide +kernel) (fun c_1 => ?_) (fun c_1 => ?_)
  · refine lv_aload_n hx hb dX11_node_15 rfl (lv_at hl 0 rfl) ?_
    refine va_get (D := (dC, dI)) (ci := 11) (v := .ref hn) (C := RX11) (T := TX11) (N := 20) hx hb hts (fun w h => List.mem_cons_of_mem _ (List.mem_append_right _ (List.mem_append_left _ h))) hown hK hP 0 rfl rfl 0 (by decide +kernel) (hts (.fieldLink RX11 11 "SixNet" "nodes" "[LSixNet$Node;") (List.mem_cons_of_mem _ (List.mem_append_left _ (List.mem_of_getElem? (i := 1) rfl)))) (fun _ h9 => h9) rfl dX11_node_16 ?_
    refine lv_aload_n hx hb dX11_node_19 rfl (lv_at hl 0 rfl) ?_
    refine va_get (D := (dC, dI)) (ci := 11) (v := .int 0) (C := RX11) (T := TX11) (N := 20) hx hb hts (fun w h => List.mem_cons_of_mem _ (List.mem_append_right _ (List.mem_append_left _ h))) hown hK hP 0 rfl rfl 9 (by decide +kernel) (hts (.fieldLink RX11 72 "SixNet" "nodeCount" "I") (List.mem_cons_of_mem _ (List.mem_append_left _ (List.mem_of_getElem? (i := 0) rfl)))) (fun _ h9 => h9) rfl dX11_node_20 ?_
    have hr_3c : 0 + 1 ≤ 12 := by decide +kernel
    have hr_3s : 0 + 15 ≤ 87 := by decide +kernel
    refine va_new (ci := 5) (fs := [.int 0, .int 0, .null, .null, .null, .null, .null, .null, .null, .int 0, .int 0, .int 0, .int 0, .int 0, .int 0]) (C := RX5) (T := TX5) (N := 15) hx hb hts (fun w h => List.mem_cons_of_mem _ (List.mem_append_right _ (List.mem_append_right _ (List.mem_append_left _ h)))) tyX5 tyX5_ok hown (hts (.classLink RX11 9 RX5) (List.mem_cons_of_mem _ (List.mem_append_left _ (List.mem_of_getElem? (i := 2) rfl)))) (hts (.instantiable RX5 15) (List.mem_cons_of_mem _ (List.mem_append_left _ (List.mem_of_getElem? (i := 3) rfl)))) (hts (.initialized RX5) (List.mem_cons_of_mem _ (List.mem_append_left _ (List.mem_of_getElem? (i := 4) rfl)))) hK hP hD hS hA rfl (fun j hj => by rcases (show j = 0 ∨ j = 1 ∨ j = 2 ∨ j = 3 ∨ j = 4 ∨ j = 5 ∨ j = 6 ∨ j = 7 ∨ j = 8 ∨ j = 9 ∨ j = 10 ∨ j = 11 ∨ j = 12 ∨ j = 13 ∨ j = 14 by omega) with rfl | rfl | rfl | rfl | rfl | rfl | rfl | rfl | rfl | rfl | rfl | rfl | rfl | rfl | rfl <;> rfl) hr_3c hr_3s dX11_node_23 (fun q_2 H hP hD hS => ?_)
    have hP : va_P (dC, dI) vwCl [(h0, .inr (11, [.ref hn, f1, f2, f3, f4, f5, f6, f7, f8, .int 0, .int 0, .int 0, .int 0, f13, f14, f15, .int 0, .int 0, .int 0, .int 0])), (hn, .inl (cN, 12, .inr (.inr (.inr (.inr (fun _ => none)))))), (q_2, .inr (5, [.int 0, .int 0, .null, .null, .null, .null, .null, .null, .null, .int 0, .int 0, .int 0, .int 0, .int 0, .int 0]))] H := hP
    have hD : va_D A [(h0, .inr (11, [.ref hn, f1, f2, f3, f4, f5, f6, f7, f8, .int 0, .int 0, .int 0, .int 0, f13, f14, f15, .int 0, .int 0, .int 0, .int 0])), (hn, .inl (cN, 12, .inr (.inr (.inr (.inr (fun _ => none)))))), (q_2, .inr (5, [.int 0, .int 0, .null, .null, .null, .null, .null, .null, .null, .int 0, .int 0, .int 0, .int 0, .int 0, .int 0]))] := hD
    refine W.widen (k := 1) (n := 15) (by decide +kernel) (by decide +kernel) ?_
    refine lv_dup hx hb dX11_node_26 rfl ?_
    refine lv_aload_n hx hb dX11_node_27 rfl (lv_at hl 0 rfl) ?_
    refine va_get (D := (dC, dI)) (ci := 11) (v := .int 0) (C := RX11) (T := TX11) (N := 20) hx hb hts (fun w h => List.mem_cons_of_mem _ (List.mem_append_right _ (List.mem_append_left _ h))) hown hK hP 0 rfl rfl 9 (by decide +kernel) (hts (.fieldLink RX11 72 "SixNet" "nodeCount" "I") (List.mem_cons_of_mem _ (List.mem_append_left _ (List.mem_of_getElem? (i := 0) rfl)))) (fun _ h9 => h9) rfl dX11_node_28 ?_
    refine lv_iload_n hx hb dX11_node_31 rfl (lv_at hl 1 rfl) ?_
    have hPc := hP.sub (ws' := [(q_2, .inr (5, [.int 0, .int 0, .null, .null, .null, .null, .null, .null, .null, .int 0, .int 0, .int 0, .int 0, .int 0, .int 0]))]) [2] rfl
    have hDc := hD.sub (ws' := [(q_2, .inr (5, [.int 0, .int 0, .null, .null, .null, .null, .null, .null, .null, .int 0, .int 0, .int 0, .int 0, .int 0, .int 0]))]) [2] (by decide +kernel) rfl
    have hKc := hK.sub (tys' := []) [] rfl
    have hFc := va_free (wc := [(q_2, .inr (5, [.int 0, .int 0, .null, .null, .null, .null, .null, .null, .null, .int 0, .int 0, .int 0, .int 0, .int 0, .int 0]))]) hD hS hA [2] rfl
    have hr_5c : 1 + 11 ≤ 12 := by decide +kernel
    have hr_5s : 15 + 72 ≤ 87 := by decide +kernel
    refine va_callv (va_runI (As := [.int 0, .int 0]) (rest := [.ref q_2, .int 0, .ref hn]) ⟨hx, hb, hml, hown, hts⟩ (k_X5_init_0 l dC dI H.size q_2 0) (cwI 2 hts wq_X11_node_0_g2 rfl rfl rfl (hts (.initialized RX5) (List.mem_cons_of_mem _ (List.mem_append_left _ (List.mem_of_getElem? (i := 4) rfl)))) (hts (.methodLink RX11 80 yX5_init) (List.mem_cons_of_mem _ (List.mem_append_left _ (List.mem_of_getElem? (i := 5) rfl)))) (hts (.instanceMethod yX5_init) (List.mem_cons_of_mem _ (List.mem_append_left _ (List.mem_of_getElem? (i := 6) rfl)))) rfl (by decide +kernel) ⟨Nat.le_of_ble_eq_true rfl, Nat.le_of_ble_eq_true rfl⟩) ⟨fun a U g mk q => by obtain ⟨q0, q1, qP, qK, qD, z0, z1, z2, z3⟩ := q; exact ⟨q0, q1, qP, va_K.moved (u := U) (U := U.calling g mk a) (Vm.Alike.refl U.vm) qK, qD, va_AO.moved (u := U) (U := U.calling g mk a) (Vm.Alike.refl U.vm) z0, va_AO.moved (u := U) (U := U.calling g mk a) (Vm.Alike.refl U.vm) z1, va_AO.moved (u := U) (U := U.calling g mk a) (Vm.Alike.refl U.vm) z2, va_Nw.same rfl rfl z3⟩, fun U hU hW => ⟨rfl, by rw [hU], by rw [hU]; exact hPc, va_K.moved hW.alike hKc, hDc.weaken (fun _ _ _ _ => trivial), va_AO.moved hW.alike hpr0, va_AO.moved hW.alike hpr1, va_AO.moved hW.alike hpr2, va_Nw.warmM hW hpr3⟩⟩ rfl rfl hl.1 rfl (lv_room (Nat.le_of_ble_eq_true rfl)) dX11_node_32 ⟨hr_5c, hr_5s⟩) hS (fun q _ h => hFc q h) hFc (fun u t H1 locs ht hvm hw hB hz1 hk1 hS => ?_)
    obtain ⟨x_6, x_7, x_8, x_9, x_10, x_11, x_12, hP1, hK1, hD1⟩ := hB
    rw [ht] at hP1
    obtain ⟨hP, hD⟩ := va_join (wr := [(h0, .inr (11, [.ref hn, f1, f2, f3, f4, f5, f6, f7, f8, .int 0, .int 0, .int 0, .int 0, f13, f14, f15, .int 0, .int 0, .int 0, .int 0])), (hn, .inl (cN, 12, .inr (.inr (.inr (.inr (fun _ => none))))))]) (w1 := [(q_2, .inr (5, [.int 0, .int 0, .ref x_6, .ref x_7, .ref x_8, .ref x_9, .ref x_10, .ref x_11, .ref x_12, .int 0, .int 0, .int 0, .int 0, .int 0, .int 0]))]) hP hD [2] [0, 1] rfl rfl (by decide +kernel) (by decide +kernel) hk1 hFc hP1 hD1
    generalize H1 = H at hP hS ⊢
    have hP : va_P (dC, dI) vwCl [(h0, .inr (11, [.ref hn, f1, f2, f3, f4, f5, f6, f7, f8, .int 0, .int 0, .int 0, .int 0, f13, f14, f15, .int 0, .int 0, .int 0, .int 0])), (hn, .inl (cN, 12, .inr (.inr (.inr (.inr (fun _ => none)))))), (q_2, .inr (5, [.int 0, .int 0, .ref x_6, .ref x_7, .ref x_8, .ref x_9, .ref x_10, .ref x_11, .ref x_12, .int 0, .int 0, .int 0, .int 0, .int 0, .int 0]))] H := hP
    have hD : va_D A [(h0, .inr (11, [.ref hn, f1, f2, f3, f4, f5, f6, f7, f8, .int 0, .int 0, .int 0, .int 0, f13, f14, f15, .int 0, .int 0, .int 0, .int 0])), (hn, .inl (cN, 12, .inr (.inr (.inr (.inr (fun _ => none)))))), (q_2, .inr (5, [.int 0, .int 0, .ref x_6, .ref x_7, .ref x_8, .ref x_9, .ref x_10, .ref x_11, .ref x_12, .int 0, .int 0, .int 0, .int 0, .int 0, .int 0]))] := hD
    refine W.widen (k := 12) (n := 87) (by decide +kernel) (by decide +kernel) ?_
    refine va_astq (D := (dC, dI)) hx hb hK hP hD hS 1 0 2 5 rfl rfl rfl rfl (by unfold vp_in; decide +kernel) dX11_node_35 (fun H locs hP hD hS => ?_)
    have hP := hP.sub (ws' := [(h0, .inr (11, [.ref hn, f1, f2, f3, f4, f5, f6, f7, f8, .int 0, .int 0, .int 0, .int 0, f13, f14, f15, .int 0, .int 0, .int 0, .int 0])), (q_2, .inr (5, [.int 0, .int 0, .ref x_6, .ref x_7, .ref x_8, .ref x_9, .ref x_10, .ref x_11, .ref x_12, .int 0, .int 0, .int 0, .int 0, .int 0, .int 0]))]) [0, 2] rfl
    have hD := hD.sub (ws' := [(h0, .inr (11, [.ref hn, f1, f2, f3, f4, f5, f6, f7, f8, .int 0, .int 0, .int 0, .int 0, f13, f14, f15, .int 0, .int 0, .int 0, .int 0])), (q_2, .inr (5, [.int 0, .int 0, .ref x_6, .ref x_7, .ref x_8, .ref x_9, .ref x_10, .ref x_11, .ref x_12, .int 0, .int 0, .int 0, .int 0, .int 0, .int 0]))]) [0, 2] (by decide +kernel) rfl
    have hP : va_P (dC, dI) vwCl [(h0, .inr (11, [.ref hn, f1, f2, f3, f4, f5, f6, f7, f8, .int 0, .int 0, .int 0, .int 0, f13, f14, f15, .int 0, .int 0, .int 0, .int 0])), (q_2, .inr (5, [.int 0, .int 0, .ref x_6, .ref x_7, .ref x_8, .ref x_9, .ref x_10, .ref x_11, .ref x_12, .int 0, .int 0, .int 0, .int 0, .int 0, .int 0]))] H := hP
    have hD : va_D A [(h0, .inr (11, [.ref hn, f1, f2, f3, f4, f5, f6, f7, f8, .int 0, .int 0, .int 0, .int 0, f13, f14, f15, .int 0, .int 0, .int 0, .int 0])), (q_2, .inr (5, [.int 0, .int 0, .ref x_6, .ref x_7, .ref x_8, .ref x_9, .ref x_10, .ref x_11, .ref x_12, .int 0, .int 0, .int 0, .int 0, .int 0, .int 0]))] := hD
    refine lv_aload_n hx hb dX11_node_36 rfl (lv_at hl 0 rfl) ?_
    refine lv_dup hx hb dX11_node_37 rfl ?_
    refine va_get (D := (dC, dI)) (ci := 11) (v := .int 0) (C := RX11) (T := TX11) (N := 20) hx hb hts (fun w h => List.mem_cons_of_mem _ (List.mem_append_right _ (List.mem_append_left _ h))) hown hK hP 0 rfl rfl 9 (by decide +kernel) (hts (.fieldLink RX11 72 "SixNet" "nodeCount" "I") (List.mem_cons_of_mem _ (List.mem_append_left _ (List.mem_of_getElem? (i := 0) rfl)))) (fun _ h9 => h9) rfl dX11_node_38 ?_
    refine lv_iconst (v := 1) hx hb dX11_node_41 (by decide +kernel) ?_
    refine lv_iadd hx hb dX11_node_42 ?_
    refine lv_topi (fun n_13 en_13 => ?_)
    have en_13 : n_13 = 1 := en_13.trans (by decide +kernel)
    subst en_13
    refine va_put (D := (dC, dI)) (ci := 11) (v := .int 1) (ty := .int) (C := RX11) (T := TX11) (N := 20) hx hb hts (fun w h => List.mem_cons_of_mem _ (List.mem_append_right _ (List.mem_append_left _ h))) tyX11 tyX11_ok nmX11 hown hK hP hD hS 0 rfl rfl 9 (by decide +kernel) (hts (.fieldLink RX11 72 "SixNet" "nodeCount" "I") (List.mem_cons_of_mem _ (List.mem_append_left _ (List.mem_of_getElem? (i := 0) rfl)))) (fun _ h9 => h9) rfl (by decide +kernel) rfl rfl (Nat.le_of_ble_eq_true rfl) dX11_node_43 (fun H locs hP hD hS => ?_)
    have hP : va_P (dC, dI) vwCl [(h0, .inr (11, [.ref hn, f1, f2, f3, f4, f5, f6, f7, f8, .int 1, .int 0, .int 0, .int 0, f13, f14, f15, .int 0, .int 0, .int 0, .int 0])), (q_2, .inr (5, [.int 0, .int 0, .ref x_6, .ref x_7, .ref x_8, .ref x_9, .ref x_10, .ref x_11, .ref x_12, .int 0, .int 0, .int 0, .int 0, .int 0, .int 0]))] H := hP
    have hD : va_D A [(h0, .inr (11, [.ref hn, f1, f2, f3, f4, f5, f6, f7, f8, .int 1, .int 0, .int 0, .int 0, f13, f14, f15, .int 0, .int 0, .int 0, .int 0])), (q_2, .inr (5, [.int 0, .int 0, .ref x_6, .ref x_7, .ref x_8, .ref x_9, .ref x_10, .ref x_11, .ref x_12, .int 0, .int 0, .int 0, .int 0, .int 0, .int 0]))] := hD
    refine lv_aload_n hx hb dX11_node_46 rfl (lv_at hl 0 rfl) ?_
    refine lv_aload_n hx hb dX11_node_47 rfl (lv_at hl 0 rfl) ?_
    refine va_get (D := (dC, dI)) (ci := 11) (v := .int 1) (C := RX11) (T := TX11) (N := 20) hx hb hts (fun w h => List.mem_cons_of_mem _ (List.mem_append_right _ (List.mem_append_left _ h))) hown hK hP 0 rfl rfl 9 (by decide +kernel) (hts (.fieldLink RX11 72 "SixNet" "nodeCount" "I") (List.mem_cons_of_mem _ (List.mem_append_left _ (List.mem_of_getElem? (i := 0) rfl)))) (fun _ h9 => h9) rfl dX11_node_48 ?_
    refine lv_iconst (v := 1) hx hb dX11_node_51 (by decide +kernel) ?_
    refine lv_isub hx hb dX11_node_52 ?_
    refine lv_topi (fun n_14 en_14 => ?_)
    have en_14 : n_14 = 0 := en_14.trans (by decide +kernel)
    subst en_14
    have hPc := hP.sub (ws' := [(h0, .inr (11, [.ref hn, f1, f2, f3, f4, f5, f6, f7, f8, .int 1, .int 0, .int 0, .int 0, f13, f14, f15, .int 0, .int 0, .int 0, .int 0]))]) [0] rfl
    have hDc := hD.sub (ws' := [(h0, .inr (11, [.ref hn, f1, f2, f3, f4, f5, f6, f7, f8, .int 1, .int 0, .int 0, .int 0, f13, f14, f15, .int 0, .int 0, .int 0, .int 0]))]) [0] (by decide +kernel) rfl
    have hKc := hK.sub (tys' := []) [] rfl
    have hFc := va_free (wc := [(h0, .inr (11, [.ref hn, f1, f2, f3, f4, f5, f6, f7, f8, .int 1, .int 0, .int 0, .int 0, f13, f14, f15, .int 0, .int 0, .int 0, .int 0]))]) hD hS hA [0] rfl
    have hr_16c : 12 + 0 ≤ 12 := by decide +kernel
    have hr_16s : 87 + 0 ≤ 87 := by decide +kernel
    refine va_calli (va_runV (As := [.int 0]) (rest := []) ⟨hx, hb, hml, hown, hts⟩ (k_X11_answer l dC dI H.size h0 (.ref hn) f1 f2 f3 f4 f5 f6 f7 f8 (.int 1) (.int 0) (.int 0) (.int 0) f13 f14 f15 (.int 0) (.int 0) (.int 0) (.int 0) 0) (cwV 1 hts wq_X11_node_0_g3 rfl rfl rfl (by decide +kernel) ⟨Nat.le_of_ble_eq_true rfl, Nat.le_of_ble_eq_true rfl⟩) ⟨fun a U g mk q => by obtain ⟨q0, q1, qP, qK, qD⟩ := q; exact ⟨q0, q1, qP, va_K.moved (u := U) (U := U.calling g mk a) (Vm.Alike.refl U.vm) qK, qD⟩, va_recv hKc hPc (ci := 11) (q0 := 0) rfl rfl, fun U hU hW => ⟨rfl, by rw [hU], by rw [hU]; exact hPc, va_K.moved hW.alike hKc, hDc.weaken (fun _ _ _ _ => trivial)⟩⟩ rfl rfl hl.1 rfl (lv_room (Nat.le_of_ble_eq_true rfl)) dX11_node_53 ⟨hr_16c, hr_16s⟩) hS (fun q _ h => hFc q h) hFc (fun r_15 u t H1 locs ht hvm hw hB hz1 hk1 hS => ?_)
    obtain ⟨hP1, hK1, hD1⟩ := hB
    rw [ht] at hP1
    obtain ⟨hP, hD⟩ := va_join (wr := [(q_2, .inr (5, [.int 0, .int 0, .ref x_6, .ref x_7, .ref x_8, .ref x_9, .ref x_10, .ref x_11, .ref x_12, .int 0, .int 0, .int 0, .int 0, .int 0, .int 0]))]) (w1 := [(h0, .inr (11, [.ref hn, f1, f2, f3, f4, f5, f6, f7, f8, .int 1, .int 0, .int 0, .int 0, f13, f14, f15, .int 0, .int 0, .int 0, .int 0]))]) hP hD [0] [1] rfl rfl (by decide +kernel) (by decide +kernel) hk1 hFc hP1 hD1
    generalize H1 = H at hP hS ⊢
    have hP : va_P (dC, dI) vwCl [(q_2, .inr (5, [.int 0, .int 0, .ref x_6, .ref x_7, .ref x_8, .ref x_9, .ref x_10, .ref x_11, .ref x_12, .int 0, .int 0, .int 0, .int 0, .int 0, .int 0])), (h0, .inr (11, [.ref hn, f1, f2, f3, f4, f5, f6, f7, f8, .int 1, .int 0, .int 0, .int 0, f13, f14, f15, .int 0, .int 0, .int 0, .int 0]))] H := hP
    have hD : va_D A [(q_2, .inr (5, [.int 0, .int 0, .ref x_6, .ref x_7, .ref x_8, .ref x_9, .ref x_10, .ref x_11, .ref x_12, .int 0, .int 0, .int 0, .int 0, .int 0, .int 0])), (h0, .inr (11, [.ref hn, f1, f2, f3, f4, f5, f6, f7, f8, .int 1, .int 0, .int 0, .int 0, f13, f14, f15, .int 0, .int 0, .int 0, .int 0]))] := hD
    have hw : r_15 = 0 := hw
    subst hw
    exact W.iret (v := 0) hx hb hr (fun t ht hW => ⟨⟨0, (), rfl, rfl, trivial⟩, hS.F ht⟩) hS.2.2 dX11_node_56
  · exact absurd c_1 (by decide +kernel)
def wq_X11_node_1_o : List Cond := [.fieldLink RX11 72 "SixNet" "nodeCount" "I", .fieldLink RX11 11 "SixNet" "nodes" "[LSixNet$Node;", .classLink RX11 9 RX5, .instantiable RX5 15, .initialized RX5, .methodLink RX11 80 yX5_init, .instanceMethod yX5_init]
def wq_X11_node_1 : List Cond := .code yX11_node cX11_node 2 (some .int) :: (wq_X11_node_1_o ++ (wsX110 ++ (wsX50 ++ (wq_X5_init_1 ++ ((wsV RX11 83 RX11 yX11_answer wq_X11_answer) ++ ([]))))))
set_option maxRecDepth 20000 in
theorem gt_wq_X11_node_1 : GoodIn lw_tbl wq_X11_node_1 := goodIn_ca (goodIn_p (.code yX11_node cX11_node 2 (some .int) :: wq_X11_node_1_o) [298] (by decide +kernel) (by decide +kernel)) (goodIn_app gt_wsX110 (goodIn_app gt_wsX50 (goodIn_app gt_wq_X5_init_1 (goodIn_app (goodIn_app (goodIn_of _ (by decide +kernel)) gt_wq_X11_answer) (fun _ h => absurd h List.not_mem_nil)))))
set_option maxRecDepth 20000 in
theorem wq_X11_node_1_g2 : GoodIn wq_X11_node_1 wq_X5_init_1 := goodIn_sub (fun w h => List.mem_cons_of_mem _ (List.mem_append_right _ (List.mem_append_right _ (List.mem_append_right _ (List.mem_append_left _ h))))) (by decide +kernel)
set_option maxRecDepth 20000 in
theorem wq_X11_node_1_g3 : GoodIn wq_X11_node_1 (wsV RX11 83 RX11 yX11_answer wq_X11_answer) := goodIn_sub (fun w h => List.mem_cons_of_mem _ (List.mem_append_right _ (List.mem_append_right _ (List.mem_append_right _ (List.mem_append_right _ (List.mem_append_left _ h)))))) (by decide +kernel)
set_option maxHeartbeats 4000000 in
set_option maxRecDepth 100000 in
theorem k_X11_node_1 (l : Launch) (dC : Nat → ClassId) (dI : Nat → Nat → Nat) (sz : Nat) (h0 : Nat) (f1 : Value) (f2 : Value) (f3 : Value) (f4 : Value) (f5 : Value) (f6 : Value) (f7 : Value) (f8 : Value) (f13 : Value) (f14 : Value) (f15 : Value) (hn : Nat) (cN : ClassId) : Met l yX11_node wq_X11_node_1 ({ frames := 10, cells := 12, slots := 152, locals := 1200 }) (va_Pc [.ref h0, .int 1] (fun U => U.heap.size = sz ∧ va_P (dC, dI) vwCl [(h0, .inr (11, [.ref hn, f1, f2, f3, f4, f5, f6, f7, f8, .int 0, .int 0, .int 0, .int 0, f13, f14, f15, .int 0, .int 0, .int 0, .int 0])), (hn, .inl (cN, 12, .inr (.inr (.inr (.inr (fun _ => none))))))] U.heap ∧ va_K (dC, dI) vwCl [(cN, .object RX5)] U ∧ va_D (fun _ => True) [(h0, .inr (11, [.ref hn, f1, f2, f3, f4, f5, f6, f7, f8, .int 0, .int 0, .int 0, .int 0, f13, f14, f15, .int 0, .int 0, .int 0, .int 0])), (hn, .inl (cN, 12, .inr (.inr (.inr (.inr (fun _ => none))))))] ∧ va_AO RX7 U ∧ va_AO RX1 U ∧ va_AO RX8 U ∧ va_Nw (.methodLinkNest RX5 19 yX4_init "SixNet") U)) (va_Qi (fun (r : Int32) (_ : Unit) => r = 0) (fun (_ : Unit) (_ : State) => True) (va_A [(h0, .inr (11, [.ref hn, f1, f2, f3, f4, f5, f6, f7, f8, .int 0, .int 0, .int 0, .int 0, f13, f14, f15, .int 0, .int 0, .int 0, .int 0])), (hn, .inl (cN, 12, .inr (.inr (.inr (.inr (fun _ => none))))))] sz)) 12 152 (va_A [(h0, .inr (11, [.ref hn, f1, f2, f3, f4, f5, f6, f7, f8, .int 0, .int 0, .int 0, .int 0, f13, f14, f15, .int 0, .int 0, .int 0, .int 0])), (hn, .inl (cN, 12, .inr (.inr (.inr (.inr (fun _ => none))))))] sz) := by
  refine Met.ofW (cc := cX11_node) (maxL := 2) (ret := (some .int)) (by decide +kernel) rfl ?_
  intro p e s m args below meth c s₁ B hml hv
  obtain ⟨rfl, hsz, hP, hK, hD0, hpr0, hpr1, hpr2, hpr3⟩ := hv
  have hx := B.exec
  have hb := B.bytes
  have hr := B.returns
  have hts := atoms_spec (ws := wq_X11_node_1) B.pre
  have hown : s.vm.findClass RX11 = some m.cls := findClass_of_methodNamed B.named
  have hlocks := B.notSynchronized
  subst hsz
  have hD := hD0.self (sz := s.heap.size)
  generalize hAe : va_A [(h0, .inr (11, [.ref hn, f1, f2, f3, f4, f5, f6, f7, f8, .int 0, .int 0, .int 0, .int 0, f13, f14, f15, .int 0, .int 0, .int 0, .int 0])), (hn, .inl (cN, 12, .inr (.inr (.inr (.inr (fun _ => none))))))] s.heap.size = A at hD ⊢
  have hA : ∀ q : Nat, s.heap.size ≤ q → A q := fun q h => by rw [← hAe]; exact Or.inr h
  have hS : va_S A s.heap s.heap [] := va_S.rf
  have hP : va_P (dC, dI) vwCl [(h0, .inr (11, [.ref hn, f1, f2, f3, f4, f5, f6, f7, f8, .int 0, .int 0, .int 0, .int 0, f13, f14, f15, .int 0, .int 0, .int 0, .int 0])), (hn, .inl (cN, 12, .inr (.inr (.inr (.inr (fun _ => none))))))] s.heap := hP
  have hl := lv_entry ([.ref h0, .int 1]) (n := 2) (Nat.le_of_ble_eq_true rfl)
  rw [lg_entry_eq]
  generalize (lg_sl ([.ref h0, .int 1]) ++ List.replicate (2 - (lg_sl ([.ref h0, .int 1])).length) Slot.unset).toArray = ls at hl ⊢
  have hl : lv_has ls 2 [(0, .ref h0), (1, .int 1)] := hl
  refine lv_aload_n hx hb dX11_node_0 rfl (lv_at hl 0 rfl) ?_
  refine va_get (D := (dC, dI)) (ci := 11) (v := .int 0) (C := RX11) (T := TX11) (N := 20) hx hb hts (fun w h => List.mem_cons_of_mem _ (List.mem_append_right _ (List.mem_append_left _ h))) hown hK hP 0 rfl rfl 9 (by decide +kernel) (hts (.fieldLink RX11 72 "SixNet" "nodeCount" "I") (List.mem_cons_of_mem _ (List.mem_append_left _ (List.mem_of_getElem? (i := 0) rfl)))) (fun _ h9 => h9) rfl dX11_node_1 ?_
  refine lv_bipush (v := 12) hx hb dX11_node_4 (by decide +kernel) ?_
  refine lv_icmp_lt (tgt := 15) hx hb dX11_node_6 (by decide +kernel) (fun c_1 => ?_) (fun c_1 => ?_)
  · refine lv_aload_n hx hb dX11_node_15 rfl (lv_at hl 0 rfl) ?_
    refine va_get (D := (dC, dI)) (ci := 11) (v := .ref hn) (C := RX11) (T := TX11) (N := 20) hx hb hts (fun w h => List.mem_cons_of_mem _ (List.mem_append_right _ (List.mem_append_left _ h))) hown hK hP 0 rfl rfl 0 (by decide +kernel) (hts (.fieldLink RX11 11 "SixNet" "nodes" "[LSixNet$Node;") (List.mem_cons_of_mem _ (List.mem_append_left _ (List.mem_of_getElem? (i := 1) rfl)))) (fun _ h9 => h9) rfl dX11_node_16 ?_
    refine lv_aload_n hx hb dX11_node_19 rfl (lv_at hl 0 rfl) ?_
    refine va_get (D := (dC, dI)) (ci := 11) (v := .int 0) (C := RX11) (T := TX11) (N := 20) hx hb hts (fun w h => List.mem_cons_of_mem _ (List.mem_append_right _ (List.mem_append_left _ h))) hown hK hP 0 rfl rfl 9 (by decide +kernel) (hts (.fieldLink RX11 72 "SixNet" "nodeCount" "I") (List.mem_cons_of_mem _ (List.mem_append_left _ (List.mem_of_getElem? (i := 0) rfl)))) (fun _ h9 => h9) rfl dX11_node_20 ?_
    have hr_3c : 0 + 1 ≤ 12 := by decide +kernel
    have hr_3s : 0 + 15 ≤ 152 := by decide +kernel
    refine va_new (ci := 5) (fs := [.int 0, .int 0, .null, .null, .null, .null, .null, .null, .null, .int 0, .int 0, .int 0, .int 0, .int 0, .int 0]) (C := RX5) (T := TX5) (N := 15) hx hb hts (fun w h => List.mem_cons_of_mem _ (List.mem_append_right _ (List.mem_append_right _ (List.mem_append_left _ h)))) tyX5 tyX5_ok hown (hts (.classLink RX11 9 RX5) (List.mem_cons_of_mem _ (List.mem_append_left _ (List.mem_of_getElem? (i := 2) rfl)))) (hts (.instantiable RX5 15) (List.mem_cons_of_mem _ (List.mem_append_left _ (List.mem_of_getElem? (i := 3) rfl)))) (hts (.initialized RX5) (List.mem_cons_of_mem _ (List.mem_append_left _ (List.mem_of_getElem? (i := 4) rfl)))) hK hP hD hS hA rfl (fun j hj => by rcases (show j = 0 ∨ j = 1 ∨ j = 2 ∨ j = 3 ∨ j = 4 ∨ j = 5 ∨ j = 6 ∨ j = 7 ∨ j = 8 ∨ j = 9 ∨ j = 10 ∨ j = 11 ∨ j = 12 ∨ j = 13 ∨ j = 14 by omega) with rfl | rfl | rfl | rfl | rfl | rfl | rfl | rfl | rfl | rfl | rfl | rfl | rfl | rfl | rfl <;> rfl) hr_3c hr_3s dX11_node_23 (fun q_2 H hP hD hS => ?_)
    have hP : va_P (dC, dI) vwCl [(h0, .inr (11, [.ref hn, f1, f2, f3, f4, f5, f6, f7, f8, .int 0, .int 0, .int 0, .int 0, f13, f14, f15, .int 0, .int 0, .int 0, .int 0])), (hn, .inl (cN, 12, .inr (.inr (.inr (.inr (fun _ => none)))))), (q_2, .inr (5, [.int 0, .int 0, .null, .null, .null, .null, .null, .null, .null, .int 0, .int 0, .int 0, .int 0, .int 0, .int 0]))] H := hP
    have hD : va_D A [(h0, .inr (11, [.ref hn, f1, f2, f3, f4, f5, f6, f7, f8, .int 0, .int 0, .int 0, .int 0, f13, f14, f15, .int 0, .int 0, .int 0, .int 0])), (hn, .inl (cN, 12, .inr (.inr (.inr (.inr (fun _ => none)))))), (q_2, .inr (5, [.int 0, .int 0, .null, .null, .null, .null, .null, .null, .null, .int 0, .int 0, .int 0, .int 0, .int 0, .int 0]))] := hD
    refine W.widen (k := 1) (n := 15) (by decide +kernel) (by decide +kernel) ?_
    refine lv_dup hx hb dX11_node_26 rfl ?_
    refine lv_aload_n hx hb dX11_node_27 rfl (lv_at hl 0 rfl) ?_
    refine va_get (D := (dC, dI)) (ci := 11) (v := .int 0) (C := RX11) (T := TX11) (N := 20) hx hb hts (fun w h => List.mem_cons_of_mem _ (List.mem_append_right _ (List.mem_append_left _ h))) hown hK hP 0 rfl rfl 9 (by decide +kernel) (hts (.fieldLink RX11 72 "SixNet" "nodeCount" "I") (List.mem_cons_of_mem _ (List.mem_append_left _ (List.mem_of_getElem? (i := 0) rfl)))) (fun _ h9 => h9) rfl dX11_node_28 ?_
    refine lv_iload_n hx hb dX11_node_31 rfl (lv_at hl 1 rfl) ?_
    have hPc := hP.sub (ws' := [(q_2, .inr (5, [.int 0, .int 0, .null, .null, .null, .null, .null, .null, .null, .int 0, .int 0, .int 0, .int 0, .int 0, .int 0]))]) [2] rfl
    have hDc := hD.sub (ws' := [(q_2, .inr (5, [.int 0, .int 0, .null, .null, .null, .null, .null, .null, .null, .int 0, .int 0, .int 0, .int 0, .int 0, .int 0]))]) [2] (by decide +kernel) rfl
    have hKc := hK.sub (tys' := []) [] rfl
    have hFc := va_free (wc := [(q_2, .inr (5, [.int 0, .int 0, .null, .null, .null, .null, .null, .null, .null, .int 0, .int 0, .int 0, .int 0, .int 0, .int 0]))]) hD hS hA [2] rfl
    have hr_5c : 1 + 11 ≤ 12 := by decide +kernel
    have hr_5s : 15 + 137 ≤ 152 := by decide +kernel
    refine va_callv (va_runI (As := [.int 0, .int 1]) (rest := [.ref q_2, .int 0, .ref hn]) ⟨hx, hb, hml, hown, hts⟩ (k_X5_init_1 l dC dI H.size q_2 0) (cwI 2 hts wq_X11_node_1_g2 rfl rfl rfl (hts (.initialized RX5) (List.mem_cons_of_mem _ (List.mem_append_left _ (List.mem_of_getElem? (i := 4) rfl)))) (hts (.methodLink RX11 80 yX5_init) (List.mem_cons_of_mem _ (List.mem_append_left _ (List.mem_of_getElem? (i := 5) rfl)))) (hts (.instanceMethod yX5_init) (List.mem_cons_of_mem _ (List.mem_append_left _ (List.mem_of_getElem? (i := 6) rfl)))) rfl (by decide +kernel) ⟨Nat.le_of_ble_eq_true rfl, Nat.le_of_ble_eq_true rfl⟩) ⟨fun a U g mk q => by obtain ⟨q0, q1, qP, qK, qD, z0, z1, z2, z3⟩ := q; exact ⟨q0, q1, qP, va_K.moved (u := U) (U := U.calling g mk a) (Vm.Alike.refl U.vm) qK, qD, va_AO.moved (u := U) (U := U.calling g mk a) (Vm.Alike.refl U.vm) z0, va_AO.moved (u := U) (U := U.calling g mk a) (Vm.Alike.refl U.vm) z1, va_AO.moved (u := U) (U := U.calling g mk a) (Vm.Alike.refl U.vm) z2, va_Nw.same rfl rfl z3⟩, fun U hU hW => ⟨rfl, by rw [hU], by rw [hU]; exact hPc, va_K.moved hW.alike hKc, hDc.weaken (fun _ _ _ _ => trivial), va_AO.moved hW.alike hpr0, va_AO.moved hW.alike hpr1, va_AO.moved hW.alike hpr2, va_Nw.warmM hW hpr3⟩⟩ rfl rfl hl.1 rfl (lv_room (Nat.le_of_ble_eq_true rfl)) dX11_node_32 ⟨hr_5c, hr_5s⟩) hS (fun q _ h => hFc q h) hFc (fun u t H1 locs ht hvm hw hB hz1 hk1 hS => ?_)
    obtain ⟨x_6, x_7, x_8, x_9, x_10, x_11, x_12, hP1, hK1, hD1⟩ := hB
    rw [ht] at hP1
    obtain ⟨hP, hD⟩ := va_join (wr := [(h0, .inr (11, [.ref hn, f1, f2, f3, f4, f5, f6, f7, f8, .int 0, .int 0, .int 0, .int 0, f13, f14, f15, .int 0, .int 0, .int 0, .int 0])), (hn, .inl (cN, 12, .inr (.inr (.inr (.inr (fun _ => none))))))]) (w1 := [(q_2, .inr (5, [.int 0, .int 1, .ref x_6, .ref x_7, .ref x_8, .ref x_9, .ref x_10, .ref x_11, .ref x_12, .int 0, .int 0, .int 0, .int 0, .int 0, .int 0]))]) hP hD [2] [0, 1] rfl rfl (by decide +kernel) (by decide +kernel) hk1 hFc hP1 hD1
    generalize H1 = H at hP hS ⊢
    have hP : va_P (dC, dI) vwCl [(h0, .inr (11, [.ref hn, f1, f2, f3, f4, f5, f6, f7, f8, .int 0, .int 0, .int 0, .int 0, f13, f14, f15, .int 0, .int 0, .int 0, .int 0])), (hn, .inl (cN, 12, .inr (.inr (.inr (.inr (fun _ => none)))))), (q_2, .inr (5, [.int 0, .int 1, .ref x_6, .ref x_7, .ref x_8, .ref x_9, .ref x_10, .ref x_11, .ref x_12, .int 0, .int 0, .int 0, .int 0, .int 0, .int 0]))] H := hP
    have hD : va_D A [(h0, .inr (11, [.ref hn, f1, f2, f3, f4, f5, f6, f7, f8, .int 0, .int 0, .int 0, .int 0, f13, f14, f15, .int 0, .int 0, .int 0, .int 0])), (hn, .inl (cN, 12, .inr (.inr (.inr (.inr (fun _ => none)))))), (q_2, .inr (5, [.int 0, .int 1, .ref x_6, .ref x_7, .ref x_8, .ref x_9, .ref x_10, .ref x_11, .ref x_12, .int 0, .int 0, .int 0, .int 0, .int 0, .int 0]))] := hD
    refine W.widen (k := 12) (n := 152) (by decide +kernel) (by decide +kernel) ?_
    refine va_astq (D := (dC, dI)) hx hb hK hP hD hS 1 0 2 5 rfl rfl rfl rfl (by unfold vp_in; decide +kernel) dX11_node_35 (fun H locs hP hD hS => ?_)
    have hP := hP.sub (ws' := [(h0, .inr (11, [.ref hn, f1, f2, f3, f4, f5, f6, f7, f8, .int 0, .int 0, .int 0, .int 0, f13, f14, f15, .int 0, .int 0, .int 0, .int 0])), (q_2, .inr (5, [.int 0, .int 1, .ref x_6, .ref x_7, .ref x_8, .ref x_9, .ref x_10, .ref x_11, .ref x_12, .int 0, .int 0, .int 0, .int 0, .int 0, .int 0]))]) [0, 2] rfl
    have hD := hD.sub (ws' := [(h0, .inr (11, [.ref hn, f1, f2, f3, f4, f5, f6, f7, f8, .int 0, .int 0, .int 0, .int 0, f13, f14, f15, .int 0, .int 0, .int 0, .int 0])), (q_2, .inr (5, [.int 0, .int 1, .ref x_6, .ref x_7, .ref x_8, .ref x_9, .ref x_10, .ref x_11, .ref x_12, .int 0, .int 0, .int 0, .int 0, .int 0, .int 0]))]) [0, 2] (by decide +kernel) rfl
    have hP : va_P (dC, dI) vwCl [(h0, .inr (11, [.ref hn, f1, f2, f3, f4, f5, f6, f7, f8, .int 0, .int 0, .int 0, .int 0, f13, f14, f15, .int 0, .int 0, .int 0, .int 0])), (q_2, .inr (5, [.int 0, .int 1, .ref x_6, .ref x_7, .ref x_8, .ref x_9, .ref x_10, .ref x_11, .ref x_12, .int 0, .int 0, .int 0, .int 0, .int 0, .int 0]))] H := hP
    have hD : va_D A [(h0, .inr (11, [.ref hn, f1, f2, f3, f4, f5, f6, f7, f8, .int 0, .int 0, .int 0, .int 0, f13, f14, f15, .int 0, .int 0, .int 0, .int 0])), (q_2, .inr (5, [.int 0, .int 1, .ref x_6, .ref x_7, .ref x_8, .ref x_9, .ref x_10, .ref x_11, .ref x_12, .int 0, .int 0, .int 0, .int 0, .int 0, .int 0]))] := hD
    refine lv_aload_n hx hb dX11_node_36 rfl (lv_at hl 0 rfl) ?_
    refine lv_dup hx hb dX11_node_37 rfl ?_
    refine va_get (D := (dC, dI)) (ci := 11) (v := .int 0) (C := RX11) (T := TX11) (N := 20) hx hb hts (fun w h => List.mem_cons_of_mem _ (List.mem_append_right _ (List.mem_append_left _ h))) hown hK hP 0 rfl rfl 9 (by decide +kernel) (hts (.fieldLink RX11 72 "SixNet" "nodeCount" "I") (List.mem_cons_of_mem _ (List.mem_append_left _ (List.mem_of_getElem? (i := 0) rfl)))) (fun _ h9 => h9) rfl dX11_node_38 ?_
    refine lv_iconst (v := 1) hx hb dX11_node_41 (by decide +kernel) ?_
    refine lv_iadd hx hb dX11_node_42 ?_
    refine lv_topi (fun n_13 en_13 => ?_)
    have en_13 : n_13 = 1 := en_13.trans (by decide +kernel)
    subst en_13
    refine va_put (D := (dC, dI)) (ci := 11) (v := .int 1) (ty := .int) (C := RX11) (T := TX11) (N := 20) hx hb hts (fun w h => List.mem_cons_of_mem _ (List.mem_append_right _ (List.mem_append_left _ h))) tyX11 tyX11_ok nmX11 hown hK hP hD hS 0 rfl rfl 9 (by decide +kernel) (hts (.fieldLink RX11 72 "SixNet" "nodeCount" "I") (List.mem_cons_of_mem _ (List.mem_append_left _ (List.mem_of_getElem? (i := 0) rfl)))) (fun _ h9 => h9) rfl (by decide +kernel) rfl rfl (Nat.le_of_ble_eq_true rfl) dX11_node_43 (fun H locs hP hD hS => ?_)
    have hP : va_P (dC, dI) vwCl [(h0, .inr (11, [.ref hn, f1, f2, f3, f4, f5, f6, f7, f8, .int 1, .int 0, .int 0, .int 0, f13, f14, f15, .int 0, .int 0, .int 0, .int 0])), (q_2, .inr (5, [.int 0, .int 1, .ref x_6, .ref x_7, .ref x_8, .ref x_9, .ref x_10, .ref x_11, .ref x_12, .int 0, .int 0, .int 0, .int 0, .int 0, .int 0]))] H := hP
    have hD : va_D A [(h0, .inr (11, [.ref hn, f1, f2, f3, f4, f5, f6, f7, f8, .int 1, .int 0, .int 0, .int 0, f13, f14, f15, .int 0, .int 0, .int 0, .int 0])), (q_2, .inr (5, [.int 0, .int 1, .ref x_6, .ref x_7, .ref x_8, .ref x_9, .ref x_10, .ref x_11, .ref x_12, .int 0, .int 0, .int 0, .int 0, .int 0, .int 0]))] := hD
    refine lv_aload_n hx hb dX11_node_46 rfl (lv_at hl 0 rfl) ?_
    refine lv_aload_n hx hb dX11_node_47 rfl (lv_at hl 0 rfl) ?_
    refine va_get (D := (dC, dI)) (ci := 11) (v := .int 1) (C := RX11) (T := TX11) (N := 20) hx hb hts (fun w h => List.mem_cons_of_mem _ (List.mem_append_right _ (List.mem_append_left _ h))) hown hK hP 0 rfl rfl 9 (by decide +kernel) (hts (.fieldLink RX11 72 "SixNet" "nodeCount" "I") (List.mem_cons_of_mem _ (List.mem_append_left _ (List.mem_of_getElem? (i := 0) rfl)))) (fun _ h9 => h9) rfl dX11_node_48 ?_
    refine lv_iconst (v := 1) hx hb dX11_node_51 (by decide +kernel) ?_
    refine lv_isub hx hb dX11_node_52 ?_
    refine lv_topi (fun n_14 en_14 => ?_)
    have en_14 : n_14 = 0 := en_14.trans (by decide +kernel)
    subst en_14
    have hPc := hP.sub (ws' := [(h0, .inr (11, [.ref hn, f1, f2, f3, f4, f5, f6, f7, f8, .int 1, .int 0, .int 0, .int 0, f13, f14, f15, .int 0, .int 0, .int 0, .int 0]))]) [0] rfl
    have hDc := hD.sub (ws' := [(h0, .inr (11, [.ref hn, f1, f2, f3, f4, f5, f6, f7, f8, .int 1, .int 0, .int 0, .int 0, f13, f14, f15, .int 0, .int 0, .int 0, .int 0]))]) [0] (by decide +kernel) rfl
    have hKc := hK.sub (tys' := []) [] rfl
    have hFc := va_free (wc := [(h0, .inr (11, [.ref hn, f1, f2, f3, f4, f5, f6, f7, f8, .int 1, .int 0, .int 0, .int 0, f13, f14, f15, .int 0, .int 0, .int 0, .int 0]))]) hD hS hA [0] rfl
    have hr_16c : 12 + 0 ≤ 12 := by decide +kernel
    have hr_16s : 152 + 0 ≤ 152 := by decide +kernel
    refine va_calli (va_runV (As := [.int 0]) (rest := []) ⟨hx, hb, hml, hown, hts⟩ (k_X11_answer l dC dI H.size h0 (.ref hn) f1 f2 f3 f4 f5 f6 f7 f8 (.int 1) (.int 0) (.int 0) (.int 0) f13 f14 f15 (.int 0) (.int 0) (.int 0) (.int 0) 0) (cwV 1 hts wq_X11_node_1_g3 rfl rfl rfl (by decide +kernel) ⟨Nat.le_of_ble_eq_true rfl, Nat.le_of_ble_eq_true rfl⟩) ⟨fun a U g mk q => by obtain ⟨q0, q1, qP, qK, qD⟩ := q; exact ⟨q0, q1, qP, va_K.moved (u := U) (U := U.calling g mk a) (Vm.Alike.refl U.vm) qK, qD⟩, va_recv hKc hPc (ci := 11) (q0 := 0) rfl rfl, fun U hU hW => ⟨rfl, by rw [hU], by rw [hU]; exact hPc, va_K.moved hW.alike hKc, hDc.weaken (fun _ _ _ _ => trivial)⟩⟩ rfl rfl hl.1 rfl (lv_room (Nat.le_of_ble_eq_true rfl)) dX11_node_53 ⟨hr_16c, hr_16s⟩) hS (fun q _ h => hFc q h) hFc (fun r_15 u t H1 locs ht hvm hw hB hz1 hk1 hS => ?_)
    obtain ⟨hP1, hK1, hD1⟩ := hB
    rw [ht] at hP1
    obtain ⟨hP, hD⟩ := va_join (wr := [(q_2, .inr (5, [.int 0, .int 1, .ref x_6, .ref x_7, .ref x_8, .ref x_9, .ref x_10, .ref x_11, .ref x_12, .int 0, .int 0, .int 0, .int 0, .int 0, .int 0]))]) (w1 := [(h0, .inr (11, [.ref hn, f1, f2, f3, f4, f5, f6, f7, f8, .int 1, .int 0, .int 0, .int 0, f13, f14, f15, .int 0, .int 0, .int 0, .int 0]))]) hP hD [0] [1] rfl rfl (by decide +kernel) (by decide +kernel) hk1 hFc hP1 hD1
    generalize H1 = H at hP hS ⊢
    have hP : va_P (dC, dI) vwCl [(q_2, .inr (5, [.int 0, .int 1, .ref x_6, .ref x_7, .ref x_8, .ref x_9, .ref x_10, .ref x_11, .ref x_12, .int 0, .int 0, .int 0, .int 0, .int 0, .int 0])), (h0, .inr (11, [.ref hn, f1, f2, f3, f4, f5, f6, f7, f8, .int 1, .int 0, .int 0, .int 0, f13, f14, f15, .int 0, .int 0, .int 0, .int 0]))] H := hP
    have hD : va_D A [(q_2, .inr (5, [.int 0, .int 1, .ref x_6, .ref x_7, .ref x_8, .ref x_9, .ref x_10, .ref x_11, .ref x_12, .int 0, .int 0, .int 0, .int 0, .int 0, .int 0])), (h0, .inr (11, [.ref hn, f1, f2, f3, f4, f5, f6, f7, f8, .int 1, .int 0, .int 0, .int 0, f13, f14, f15, .int 0, .int 0, .int 0, .int 0]))] := hD
    have hw : r_15 = 0 := hw
    subst hw
    exact W.iret (v := 0) hx hb hr (fun t ht hW => ⟨⟨0, (), rfl, rfl, trivial⟩, hS.F ht⟩) hS.2.2 dX11_node_56
  · exact absurd c_1 (by decide +kernel)
def wq_X11_isGlobal_o : List Cond := []
def wq_X11_isGlobal : List Cond := .code yX11_isGlobal cX11_isGlobal 2 (some .boolean) :: (wq_X11_isGlobal_o ++ ([]))
set_option maxRecDepth 20000 in
theorem gt_wq_X11_isGlobal : GoodIn lw_tbl wq_X11_isGlobal := goodIn_ca (goodIn_p (.code yX11_isGlobal cX11_isGlobal 2 (some .boolean) :: wq_X11_isGlobal_o) [404] (by decide +kernel) (by decide +kernel)) (fun _ h => absurd h List.not_mem_nil)
set_option maxHeartbeats 4000000 in
set_option maxRecDepth 100000 in
theorem k_X11_isGlobal (l : Launch) (dC : Nat → ClassId) (dI : Nat → Nat → Nat) (sz : Nat) (xm : Int64) : Met l yX11_isGlobal wq_X11_isGlobal ({ frames := 4, cells := 0, slots := 0, locals := 200 }) (va_Pc [.long xm] (fun U => U.heap.size = sz ∧ va_P (dC, dI) vwCl [] U.heap ∧ va_K (dC, dI) vwCl [] U ∧ va_D (fun _ => True) [])) (va_Qi (fun (r : Int32) (_ : Unit) => r = (if pp_g xm = 1 then 1 else 0)) (fun (_ : Unit) (t : State) => va_P (dC, dI) vwCl [] t.heap ∧ va_K (dC, dI) vwCl [] t ∧ va_D (va_A [] sz) []) (va_A [] sz)) 0 0 (va_A [] sz) := by
  refine Met.ofW (cc := cX11_isGlobal) (maxL := 2) (ret := (some .boolean)) (by decide +kernel) rfl ?_
  intro p e s m args below meth c s₁ B hml hv
  obtain ⟨rfl, hsz, hP, hK, hD0⟩ := hv
  have hx := B.exec
  have hb := B.bytes
  have hr := B.returns
  have hts := atoms_spec (ws := wq_X11_isGlobal) B.pre
  have hown : s.vm.findClass RX11 = some m.cls := findClass_of_methodNamed B.named
  have hlocks := B.notSynchronized
  subst hsz
  have hD := hD0.self (sz := s.heap.size)
  generalize hAe : va_A [] s.heap.size = A at hD ⊢
  have hA : ∀ q : Nat, s.heap.size ≤ q → A q := fun q h => by rw [← hAe]; exact Or.inr h
  have hS : va_S A s.heap s.heap [] := va_S.rf
  have hP : va_P (dC, dI) vwCl [] s.heap := hP
  have hl := lv_entry ([.long xm]) (n := 2) (Nat.le_of_ble_eq_true rfl)
  rw [lg_entry_eq]
  generalize (lg_sl ([.long xm]) ++ List.replicate (2 - (lg_sl ([.long xm])).length) Slot.unset).toArray = ls at hl ⊢
  have hl : lv_has ls 2 [(0, .long xm)] := hl
  refine lv_lload_n hx hb dX11_isGlobal_0 rfl (lv_at hl 0 rfl) ?_
  refine lv_bipush (v := 61) hx hb dX11_isGlobal_1 (by decide +kernel) ?_
  obtain ⟨j_1, ej_1⟩ : ∃ z : Int64, (xm.toUInt64 >>> ((61 : Int32).toInt64.toUInt64 &&& Int64.toUInt64 63)).toInt64 = z := ⟨_, rfl⟩
  refine lv_lushr (v := j_1) hx hb dX11_isGlobal_3 ej_1 ?_
  refine lv_lconst (v := 1) hx hb dX11_isGlobal_4 (by decide +kernel) ?_
  refine W.lcmp hx hb dX11_isGlobal_5 ?_
  refine lv_if_ne (tgt := 13) hx hb dX11_isGlobal_6 (by decide +kernel) (fun c_2 => ?_) (fun c_2 => ?_)
  · refine lv_iconst (v := 0) hx hb dX11_isGlobal_13 (by decide +kernel) ?_
    have hP9 := hP.sub (ws' := []) [] rfl
    have hD9 := hD.sub (ws' := []) [] (by decide +kernel) rfl
    have hK9 := hK.sub (tys' := []) [] rfl
    exact W.zret (v := 0) hx hb hr (by decide +kernel) (fun t ht hW => ⟨⟨0, (), rfl, (if_neg (fun h : pp_g xm = 1 => c_2 ((lg_cmp_eq _ _).mpr (ej_1.symm.trans h)))).symm, by rw [ht]; exact hP9, va_K.moved hW.alike hK9, hD9⟩, hS.F ht⟩) hS.2.2 dX11_isGlobal_14
  · refine lv_iconst (v := 1) hx hb dX11_isGlobal_9 (by decide +kernel) ?_
    refine lv_goto (tgt := 14) hx hb dX11_isGlobal_10 (by decide +kernel) ?_
    have hP9 := hP.sub (ws' := []) [] rfl
    have hD9 := hD.sub (ws' := []) [] (by decide +kernel) rfl
    have hK9 := hK.sub (tys' := []) [] rfl
    exact W.zret (v := 1) hx hb hr (by decide +kernel) (fun t ht hW => ⟨⟨1, (), rfl, (if_pos (show pp_g xm = 1 from ej_1.trans ((lg_cmp_eq _ _).mp c_2))).symm, by rw [ht]; exact hP9, va_K.moved hW.alike hK9, hD9⟩, hS.F ht⟩) hS.2.2 dX11_isGlobal_14
def wq_X11_link_o : List Cond := [.fieldLink RX11 90 "SixNet" "linkCount" "I", .fieldLink RX11 17 "SixNet" "links" "[LSixNet$Link;", .classLink RX11 15 RX3, .instantiable RX3 4, .initialized RX3, .methodLink RX11 97 yX3_init, .instanceMethod yX3_init]
def wq_X11_link : List Cond := .code yX11_link cX11_link 6 (some .int) :: (wq_X11_link_o ++ ((wsS RX11 86 yX11_isGlobal wq_X11_isGlobal) ++ ((wsV RX11 76 RX11 yX11_refuse wq_X11_refuse) ++ (wsX110 ++ (wsX30 ++ (wq_X3_init ++ ((wsV RX11 83 RX11 yX11_answer wq_X11_answer) ++ ([]))))))))
set_option maxRecDepth 20000 in
theorem gt_wq_X11_link : GoodIn lw_tbl wq_X11_link := goodIn_ca (goodIn_p (.code yX11_link cX11_link 6 (some .int) :: wq_X11_link_o) [401] (by decide +kernel) (by decide +kernel)) (goodIn_app (goodIn_app (goodIn_of _ (by decide +kernel)) gt_wq_X11_isGlobal) (goodIn_app (goodIn_app (goodIn_of _ (by decide +kernel)) gt_wq_X11_refuse) (goodIn_app gt_wsX110 (goodIn_app gt_wsX30 (goodIn_app gt_wq_X3_init (goodIn_app (goodIn_app (goodIn_of _ (by decide +kernel)) gt_wq_X11_answer) (fun _ h => absurd h List.not_mem_nil)))))))
set_option maxRecDepth 20000 in
theorem wq_X11_link_g0 : GoodIn wq_X11_link (wsS RX11 86 yX11_isGlobal wq_X11_isGlobal) := goodIn_sub (fun w h => List.mem_cons_of_mem _ (List.mem_append_right _ (List.mem_append_left _ h))) (by decide +kernel)
set_option maxRecDepth 20000 in
theorem wq_X11_link_g1 : GoodIn wq_X11_link (wsV RX11 76 RX11 yX11_refuse wq_X11_refuse) := goodIn_sub (fun w h => List.mem_cons_of_mem _ (List.mem_append_right _ (List.mem_append_right _ (List.mem_append_left _ h)))) (by decide +kernel)
set_option maxRecDepth 20000 in
theorem wq_X11_link_g4 : GoodIn wq_X11_link wq_X3_init := goodIn_sub (fun w h => List.mem_cons_of_mem _ (List.mem_append_right _ (List.mem_append_right _ (List.mem_append_right _ (List.mem_append_right _ (List.mem_append_right _ (List.mem_append_left _ h))))))) (by decide +kernel)
set_option maxRecDepth 20000 in
theorem wq_X11_link_g5 : GoodIn wq_X11_link (wsV RX11 83 RX11 yX11_answer wq_X11_answer) := goodIn_sub (fun w h => List.mem_cons_of_mem _ (List.mem_append_right _ (List.mem_append_right _ (List.mem_append_right _ (List.mem_append_right _ (List.mem_append_right _ (List.mem_append_right _ (List.mem_append_left _ h)))))))) (by decide +kernel)
set_option maxHeartbeats 4000000 in
set_option maxRecDepth 100000 in
theorem k_X11_link (l : Launch) (dC : Nat → ClassId) (dI : Nat → Nat → Nat) (sz : Nat) (h0 : Nat) (f0 : Value) (f2 : Value) (f3 : Value) (f4 : Value) (f5 : Value) (f6 : Value) (f7 : Value) (f8 : Value) (f13 : Value) (f14 : Value) (f15 : Value) (hn : Nat) (cN : ClassId) (xm : Int64) (k : Int32) : Met l yX11_link wq_X11_link ({ frames := 10, cells := 1, slots := 4, locals := 1200 }) (va_Pc [.ref h0, .long xm, .int k] (fun U => U.heap.size = sz ∧ va_P (dC, dI) vwCl [(h0, .inr (11, [f0, .ref hn, f2, f3, f4, f5, f6, f7, f8, .int 0, .int 0, .int 0, .int 0, f13, f14, f15, .int 0, .int 0, .int 0, .int 0])), (hn, .inl (cN, 10, .inr (.inr (.inr (.inr (fun _ => none))))))] U.heap ∧ va_K (dC, dI) vwCl [(cN, .object RX3)] U ∧ va_D (fun _ => True) [(h0, .inr (11, [f0, .ref hn, f2, f3, f4, f5, f6, f7, f8, .int 0, .int 0, .int 0, .int 0, f13, f14, f15, .int 0, .int 0, .int 0, .int 0])), (hn, .inl (cN, 10, .inr (.inr (.inr (.inr (fun _ => none))))))])) (va_Qi (fun (r : Int32) (_ : Unit) => r = (if pp_g xm = 1 ∧ 1280 ≤ k ∧ k ≤ 1500 then 0 else -1)) (fun (_ : Unit) (_ : State) => True) (va_A [(h0, .inr (11, [f0, .ref hn, f2, f3, f4, f5, f6, f7, f8, .int 0, .int 0, .int 0, .int 0, f13, f14, f15, .int 0, .int 0, .int 0, .int 0])), (hn, .inl (cN, 10, .inr (.inr (.inr (.inr (fun _ => none))))))] sz)) 1 4 (va_A [(h0, .inr (11, [f0, .ref hn, f2, f3, f4, f5, f6, f7, f8, .int 0, .int 0, .int 0, .int 0, f13, f14, f15, .int 0, .int 0, .int 0, .int 0])), (hn, .inl (cN, 10, .inr (.inr (.inr (.inr (fun _ => none))))))] sz) := by
  refine Met.ofW (cc := cX11_link) (maxL := 6) (ret := (some .int)) (by decide +kernel) rfl ?_
  intro p e s m args below meth c s₁ B hml hv
  obtain ⟨rfl, hsz, hP, hK, hD0⟩ := hv
  have hx := B.exec
  have hb := B.bytes
  have hr := B.returns
  have hts := atoms_spec (ws := wq_X11_link) B.pre
  have hown : s.vm.findClass RX11 = some m.cls := findClass_of_methodNamed B.named
  have hlocks := B.notSynchronized
  subst hsz
  have hD := hD0.self (sz := s.heap.size)
  generalize hAe : va_A [(h0, .inr (11, [f0, .ref hn, f2, f3, f4, f5, f6, f7, f8, .int 0, .int 0, .int 0, .int 0, f13, f14, f15, .int 0, .int 0, .int 0, .int 0])), (hn, .inl (cN, 10, .inr (.inr (.inr (.inr (fun _ => none))))))] s.heap.size = A at hD ⊢
  have hA : ∀ q : Nat, s.heap.size ≤ q → A q := fun q h => by rw [← hAe]; exact Or.inr h
  have hS : va_S A s.heap s.heap [] := va_S.rf
  have hP : va_P (dC, dI) vwCl [(h0, .inr (11, [f0, .ref hn, f2, f3, f4, f5, f6, f7, f8, .int 0, .int 0, .int 0, .int 0, f13, f14, f15, .int 0, .int 0, .int 0, .int 0])), (hn, .inl (cN, 10, .inr (.inr (.inr (.inr (fun _ => none))))))] s.heap := hP
  have hl := lv_entry ([.ref h0, .long xm, .int k]) (n := 6) (Nat.le_of_ble_eq_true rfl)
  rw [lg_entry_eq]
  generalize (lg_sl ([.ref h0, .long xm, .int k]) ++ List.replicate (6 - (lg_sl ([.ref h0, .long xm, .int k])).length) Slot.unset).toArray = ls at hl ⊢
  have hl : lv_has ls 6 [(0, .ref h0), (1, .long xm), (3, .int k)] := hl
  refine lv_lload_n hx hb dX11_link_0 rfl (lv_at hl 1 rfl) ?_
  have hPc := hP.sub (ws' := []) [] rfl
  have hDc := hD.sub (ws' := []) [] (by decide +kernel) rfl
  have hKc := hK.sub (tys' := []) [] rfl
  have hFc := va_free (wc := []) hD hS hA [] rfl
  have hr_2c : 0 + 0 ≤ 1 := by decide +kernel
  have hr_2s : 0 + 0 ≤ 4 := by decide +kernel
  refine va_calli (va_runS (As := [.long xm]) (rest := []) ⟨hx, hb, hml, hown, hts⟩ (k_X11_isGlobal l dC dI s.heap.size xm) (cwS 1 hts wq_X11_link_g0 rfl rfl rfl (by decide +kernel) ⟨Nat.le_of_ble_eq_true rfl, Nat.le_of_ble_eq_true rfl⟩) ⟨fun a U g mk q => by obtain ⟨q0, q1, qP, qK, qD⟩ := q; exact ⟨q0, q1, qP, va_K.moved (u := U) (U := U.calling g mk a) (Vm.Alike.refl U.vm) qK, qD⟩, fun U hU hW => ⟨rfl, by rw [hU], by rw [hU]; exact hPc, va_K.moved hW.alike hKc, hDc.weaken (fun _ _ _ _ => trivial)⟩⟩ rfl rfl hl.1 rfl (lv_room (Nat.le_of_ble_eq_true rfl)) dX11_link_1 ⟨hr_2c, hr_2s⟩) hS (fun q _ h => hFc q h) hFc (fun r_1 u t H1 locs ht hvm hw hB hz1 hk1 hS => ?_)
  obtain ⟨hP1, hK1, hD1⟩ := hB
  rw [ht] at hP1
  obtain ⟨hP, hD⟩ := va_join (wr := [(h0, .inr (11, [f0, .ref hn, f2, f3, f4, f5, f6, f7, f8, .int 0, .int 0, .int 0, .int 0, f13, f14, f15, .int 0, .int 0, .int 0, .int 0])), (hn, .inl (cN, 10, .inr (.inr (.inr (.inr (fun _ => none))))))]) (w1 := []) hP hD [] [0, 1] rfl rfl (by decide +kernel) (by decide +kernel) hk1 hFc hP1 hD1
  generalize H1 = H at hP hS ⊢
  have hP : va_P (dC, dI) vwCl [(h0, .inr (11, [f0, .ref hn, f2, f3, f4, f5, f6, f7, f8, .int 0, .int 0, .int 0, .int 0, f13, f14, f15, .int 0, .int 0, .int 0, .int 0])), (hn, .inl (cN, 10, .inr (.inr (.inr (.inr (fun _ => none))))))] H := hP
  have hD : va_D A [(h0, .inr (11, [f0, .ref hn, f2, f3, f4, f5, f6, f7, f8, .int 0, .int 0, .int 0, .int 0, f13, f14, f15, .int 0, .int 0, .int 0, .int 0])), (hn, .inl (cN, 10, .inr (.inr (.inr (.inr (fun _ => none))))))] := hD
  have hw : r_1 = (if pp_g xm = 1 then 1 else 0) := hw
  subst hw
  refine lv_if_eq (tgt := 21) hx hb dX11_link_4 (by decide +kernel) (fun c_3 => ?_) (fun c_3 => ?_)
  · refine lv_aload_n hx hb dX11_link_21 rfl (lv_at hl 0 rfl) ?_
    refine lv_iconst (v := 4) hx hb dX11_link_22 (by decide +kernel) ?_
    have hPc := hP.sub (ws' := [(h0, .inr (11, [f0, .ref hn, f2, f3, f4, f5, f6, f7, f8, .int 0, .int 0, .int 0, .int 0, f13, f14, f15, .int 0, .int 0, .int 0, .int 0]))]) [0] rfl
    have hDc := hD.sub (ws' := [(h0, .inr (11, [f0, .ref hn, f2, f3, f4, f5, f6, f7, f8, .int 0, .int 0, .int 0, .int 0, f13, f14, f15, .int 0, .int 0, .int 0, .int 0]))]) [0] (by decide +kernel) rfl
    have hKc := hK.sub (tys' := []) [] rfl
    have hFc := va_free (wc := [(h0, .inr (11, [f0, .ref hn, f2, f3, f4, f5, f6, f7, f8, .int 0, .int 0, .int 0, .int 0, f13, f14, f15, .int 0, .int 0, .int 0, .int 0]))]) hD hS hA [0] rfl
    have hr_5c : 0 + 0 ≤ 1 := by decide +kernel
    have hr_5s : 0 + 0 ≤ 4 := by decide +kernel
    refine va_calli (va_runV (As := [.int 4]) (rest := []) ⟨hx, hb, hml, hown, hts⟩ (k_X11_refuse l dC dI H.size h0 f0 (.ref hn) f2 f3 f4 f5 f6 f7 f8 (.int 0) (.int 0) (.int 0) (.int 0) f13 f14 f15 (.int 0) (.int 0) (.int 0) (.int 0) 4) (cwV 1 hts wq_X11_link_g1 rfl rfl rfl (by decide +kernel) ⟨Nat.le_of_ble_eq_true rfl, Nat.le_of_ble_eq_true rfl⟩) ⟨fun a U g mk q => by obtain ⟨q0, q1, qP, qK, qD⟩ := q; exact ⟨q0, q1, qP, va_K.moved (u := U) (U := U.calling g mk a) (Vm.Alike.refl U.vm) qK, qD⟩, va_recv hKc hPc (ci := 11) (q0 := 0) rfl rfl, fun U hU hW => ⟨rfl, by rw [hU], by rw [hU]; exact hPc, va_K.moved hW.alike hKc, hDc.weaken (fun _ _ _ _ => trivial)⟩⟩ rfl rfl hl.1 rfl (lv_room (Nat.le_of_ble_eq_true rfl)) dX11_link_23 ⟨hr_5c, hr_5s⟩) hS (fun q _ h => hFc q h) hFc (fun r_4 u t H1 locs ht hvm hw hB hz1 hk1 hS => ?_)
    obtain ⟨hP1, hK1, hD1⟩ := hB
    rw [ht] at hP1
    obtain ⟨hP, hD⟩ := va_join (wr := [(hn, .inl (cN, 10, .inr (.inr (.inr (.inr (fun _ => none))))))]) (w1 := [(h0, .inr (11, [f0, .ref hn, f2, f3, f4, f5, f6, f7, f8, .int 0, .int 0, .int 0, .int 0, f13, f14, f15, .int 0, .int 0, .int 0, .int 4]))]) hP hD [0] [1] rfl rfl (by decide +kernel) (by decide +kernel) hk1 hFc hP1 hD1
    generalize H1 = H at hP hS ⊢
    have hP : va_P (dC, dI) vwCl [(hn, .inl (cN, 10, .inr (.inr (.inr (.inr (fun _ => none)))))), (h0, .inr (11, [f0, .ref hn, f2, f3, f4, f5, f6, f7, f8, .int 0, .int 0, .int 0, .int 0, f13, f14, f15, .int 0, .int 0, .int 0, .int 4]))] H := hP
    have hD : va_D A [(hn, .inl (cN, 10, .inr (.inr (.inr (.inr (fun _ => none)))))), (h0, .inr (11, [f0, .ref hn, f2, f3, f4, f5, f6, f7, f8, .int 0, .int 0, .int 0, .int 0, f13, f14, f15, .int 0, .int 0, .int 0, .int 4]))] := hD
    have hw : r_4 = -1 := hw
    subst hw
    refine W.widen (k := 1) (n := 4) (by decide +kernel) (by decide +kernel) ?_
    exact W.iret (v := (-1)) hx hb hr (fun t ht hW => ⟨⟨(-1), (), rfl, (by (try simp only [Int32.lt_iff_toInt_lt, Int32.le_iff_toInt_le, show (1280 : Int32).toInt = 1280 from rfl, show (1500 : Int32).toInt = 1500 from rfl] at c_3); simp only [Int32.lt_iff_toInt_lt, Int32.le_iff_toInt_le, show (1280 : Int32).toInt = 1280 from rfl, show (1500 : Int32).toInt = 1500 from rfl]; rcases Classical.em (pp_g xm = 1) with hg | hg <;> simp only [hg, if_true, if_false, true_and, false_and] at c_3 ⊢ <;> first | rfl | exact absurd c_3 (by decide) | (split <;> first | rfl | omega)), trivial⟩, hS.F ht⟩) hS.2.2 dX11_link_26
  · refine lv_iload_n hx hb dX11_link_7 rfl (lv_at hl 2 rfl) ?_
    refine lv_sipush (v := 1280) hx hb dX11_link_8 (by decide +kernel) ?_
    refine lv_icmp_lt (tgt := 21) hx hb dX11_link_11 (by decide +kernel) (fun c_6 => ?_) (fun c_6 => ?_)
    · refine lv_aload_n hx hb dX11_link_21 rfl (lv_at hl 0 rfl) ?_
      refine lv_iconst (v := 4) hx hb dX11_link_22 (by decide +kernel) ?_
      have hPc := hP.sub (ws' := [(h0, .inr (11, [f0, .ref hn, f2, f3, f4, f5, f6, f7, f8, .int 0, .int 0, .int 0, .int 0, f13, f14, f15, .int 0, .int 0, .int 0, .int 0]))]) [0] rfl
      have hDc := hD.sub (ws' := [(h0, .inr (11, [f0, .ref hn, f2, f3, f4, f5, f6, f7, f8, .int 0, .int 0, .int 0, .int 0, f13, f14, f15, .int 0, .int 0, .int 0, .int 0]))]) [0] (by decide +kernel) rfl
      have hKc := hK.sub (tys' := []) [] rfl
      have hFc := va_free (wc := [(h0, .inr (11, [f0, .ref hn, f2, f3, f4, f5, f6, f7, f8, .int 0, .int 0, .int 0, .int 0, f13, f14, f15, .int 0, .int 0, .int 0, .int 0]))]) hD hS hA [0] rfl
      have hr_8c : 0 + 0 ≤ 1 := by decide +kernel
      have hr_8s : 0 + 0 ≤ 4 := by decide +kernel
      refine va_calli (va_runV (As := [.int 4]) (rest := []) ⟨hx, hb, hml, hown, hts⟩ (k_X11_refuse l dC dI H.size h0 f0 (.ref hn) f2 f3 f4 f5 f6 f7 f8 (.int 0) (.int 0) (.int 0) (.int 0) f13 f14 f15 (.int 0) (.int 0) (.int 0) (.int 0) 4) (cwV 1 hts wq_X11_link_g1 rfl rfl rfl (by decide +kernel) ⟨Nat.le_of_ble_eq_true rfl, Nat.le_of_ble_eq_true rfl⟩) ⟨fun a U g mk q => by obtain ⟨q0, q1, qP, qK, qD⟩ := q; exact ⟨q0, q1, qP, va_K.moved (u := U) (U := U.calling g mk a) (Vm.Alike.refl U.vm) qK, qD⟩, va_recv hKc hPc (ci := 11) (q0 := 0) rfl rfl, fun U hU hW => ⟨rfl, by rw [hU], by rw [hU]; exact hPc, va_K.moved hW.alike hKc, hDc.weaken (fun _ _ _ _ => trivial)⟩⟩ rfl rfl hl.1 rfl (lv_room (Nat.le_of_ble_eq_true rfl)) dX11_link_23 ⟨hr_8c, hr_8s⟩) hS (fun q _ h => hFc q h) hFc (fun r_7 u t H1 locs ht hvm hw hB hz1 hk1 hS => ?_)
      obtain ⟨hP1, hK1, hD1⟩ := hB
      rw [ht] at hP1
      obtain ⟨hP, hD⟩ := va_join (wr := [(hn, .inl (cN, 10, .inr (.inr (.inr (.inr (fun _ => none))))))]) (w1 := [(h0, .inr (11, [f0, .ref hn, f2, f3, f4, f5, f6, f7, f8, .int 0, .int 0, .int 0, .int 0, f13, f14, f15, .int 0, .int 0, .int 0, .int 4]))]) hP hD [0] [1] rfl rfl (by decide +kernel) (by decide +kernel) hk1 hFc hP1 hD1
      generalize H1 = H at hP hS ⊢
      have hP : va_P (dC, dI) vwCl [(hn, .inl (cN, 10, .inr (.inr (.inr (.inr (fun _ => none)))))), (h0, .inr (11, [f0, .ref hn, f2, f3, f4, f5, f6, f7, f8, .int 0, .int 0, .int 0, .int 0, f13, f14, f15, .int 0, .int 0, .int 0, .int 4]))] H := hP
      have hD : va_D A [(hn, .inl (cN, 10, .inr (.inr (.inr (.inr (fun _ => none)))))), (h0, .inr (11, [f0, .ref hn, f2, f3, f4, f5, f6, f7, f8, .int 0, .int 0, .int 0, .int 0, f13, f14, f15, .int 0, .int 0, .int 0, .int 4]))] := hD
      have hw : r_7 = -1 := hw
      subst hw
      refine W.widen (k := 1) (n := 4) (by decide +kernel) (by decide +kernel) ?_
      exact W.iret (v := (-1)) hx hb hr (fun t ht hW => ⟨⟨(-1), (), rfl, (by (try simp only [Int32.lt_iff_toInt_lt, Int32.le_iff_toInt_le, show (1280 : Int32).toInt = 1280 from rfl, show (1500 : Int32).toInt = 1500 from rfl] at c_3); (try simp only [Int32.lt_iff_toInt_lt, Int32.le_iff_toInt_le, show (1280 : Int32).toInt = 1280 from rfl, show (1500 : Int32).toInt = 1500 from rfl] at c_6); simp only [Int32.lt_iff_toInt_lt, Int32.le_iff_toInt_le, show (1280 : Int32).toInt = 1280 from rfl, show (1500 : Int32).toInt = 1500 from rfl]; rcases Classical.em (pp_g xm = 1) with hg | hg <;> simp only [hg, if_true, if_false, true_and, false_and] at c_3 ⊢ <;> first | rfl | exact absurd c_3 (by decide) | (split <;> first | rfl | omega)), trivial⟩, hS.F ht⟩) hS.2.2 dX11_link_26
    · refine lv_iload_n hx hb dX11_link_14 rfl (lv_at hl 2 rfl) ?_
      refine lv_sipush (v := 1500) hx hb dX11_link_15 (by decide +kernel) ?_
      refine lv_icmp_le (tgt := 27) hx hb dX11_link_18 (by decide +kernel) (fun c_9 => ?_) (fun c_9 => ?_)
      · refine lv_aload_n hx hb dX11_link_27 rfl (lv_at hl 0 rfl) ?_
        refine va_get (D := (dC, dI)) (ci := 11) (v := .int 0) (C := RX11) (T := TX11) (N := 20) hx hb hts (fun w h => List.mem_cons_of_mem _ (List.mem_append_right _ (List.mem_append_right _ (List.mem_append_right _ (List.mem_append_left _ h))))) hown hK hP 0 rfl rfl 10 (by decide +kernel) (hts (.fieldLink RX11 90 "SixNet" "linkCount" "I") (List.mem_cons_of_mem _ (List.mem_append_left _ (List.mem_of_getElem? (i := 0) rfl)))) (fun _ h9 => h9) rfl dX11_link_28 ?_
        refine lv_bipush (v := 10) hx hb dX11_link_31 (by decide +kernel) ?_
        refine lv_icmp_lt (tgt := 42) hx hb dX11_link_33 (by decide +kernel) (fun c_10 => ?_) (fun c_10 => ?_)
        · refine lv_iconst (v := 0) hx hb dX11_link_42 (by decide +kernel) ?_
          refine lv_istore (lv' := [(4, .int 0), (0, .ref h0), (1, .long xm), (3, .int k)]) hx hb dX11_link_43 hl (by decide +kernel) rfl (fun ls hl => ?_)
          refine lv_iload hx hb dX11_link_45 (lv_at hl 0 rfl) ?_
          refine lv_aload_n hx hb dX11_link_47 rfl (lv_at hl 1 rfl) ?_
          refine va_get (D := (dC, dI)) (ci := 11) (v := .int 0) (C := RX11) (T := TX11) (N := 20) hx hb hts (fun w h => List.mem_cons_of_mem _ (List.mem_append_right _ (List.mem_append_right _ (List.mem_append_right _ (List.mem_append_left _ h))))) hown hK hP 0 rfl rfl 10 (by decide +kernel) (hts (.fieldLink RX11 90 "SixNet" "linkCount" "I") (List.mem_cons_of_mem _ (List.mem_append_left _ (List.mem_of_getElem? (i := 0) rfl)))) (fun _ h9 => h9) rfl dX11_link_48 ?_
          refine lv_icmp_ge (tgt := 91) hx hb dX11_link_51 (by decide +kernel) (fun c_11 => ?_) (fun c_11 => ?_)
          · refine lv_aload_n hx hb dX11_link_91 rfl (lv_at hl 1 rfl) ?_
            refine va_get (D := (dC, dI)) (ci := 11) (v := .ref hn) (C := RX11) (T := TX11) (N := 20) hx hb hts (fun w h => List.mem_cons_of_mem _ (List.mem_append_right _ (List.mem_append_right _ (List.mem_append_right _ (List.mem_append_left _ h))))) hown hK hP 0 rfl rfl 1 (by decide +kernel) (hts (.fieldLink RX11 17 "SixNet" "links" "[LSixNet$Link;") (List.mem_cons_of_mem _ (List.mem_append_left _ (List.mem_of_getElem? (i := 1) rfl)))) (fun _ h9 => h9) rfl dX11_link_92 ?_
            refine lv_aload_n hx hb dX11_link_95 rfl (lv_at hl 1 rfl) ?_
            refine va_get (D := (dC, dI)) (ci := 11) (v := .int 0) (C := RX11) (T := TX11) (N := 20) hx hb hts (fun w h => List.mem_cons_of_mem _ (List.mem_append_right _ (List.mem_append_right _ (List.mem_append_right _ (List.mem_append_left _ h))))) hown hK hP 0 rfl rfl 10 (by decide +kernel) (hts (.fieldLink RX11 90 "SixNet" "linkCount" "I") (List.mem_cons_of_mem _ (List.mem_append_left _ (List.mem_of_getElem? (i := 0) rfl)))) (fun _ h9 => h9) rfl dX11_link_96 ?_
            have hr_13c : 0 + 1 ≤ 1 := by decide +kernel
            have hr_13s : 0 + 4 ≤ 4 := by decide +kernel
            refine va_new (ci := 3) (fs := [.int 0, .long 0, .int 0, .int 0]) (C := RX3) (T := TX3) (N := 4) hx hb hts (fun w h => List.mem_cons_of_mem _ (List.mem_append_right _ (List.mem_append_right _ (List.mem_append_right _ (List.mem_append_right _ (List.mem_append_left _ h)))))) tyX3 tyX3_ok hown (hts (.classLink RX11 15 RX3) (List.mem_cons_of_mem _ (List.mem_append_left _ (List.mem_of_getElem? (i := 2) rfl)))) (hts (.instantiable RX3 4) (List.mem_cons_of_mem _ (List.mem_append_left _ (List.mem_of_getElem? (i := 3) rfl)))) (hts (.initialized RX3) (List.mem_cons_of_mem _ (List.mem_append_left _ (List.mem_of_getElem? (i := 4) rfl)))) hK hP hD hS hA rfl (fun j hj => by rcases (show j = 0 ∨ j = 1 ∨ j = 2 ∨ j = 3 by omega) with rfl | rfl | rfl | rfl <;> rfl) hr_13c hr_13s dX11_link_99 (fun q_12 H hP hD hS => ?_)
            have hP : va_P (dC, dI) vwCl [(h0, .inr (11, [f0, .ref hn, f2, f3, f4, f5, f6, f7, f8, .int 0, .int 0, .int 0, .int 0, f13, f14, f15, .int 0, .int 0, .int 0, .int 0])), (hn, .inl (cN, 10, .inr (.inr (.inr (.inr (fun _ => none)))))), (q_12, .inr (3, [.int 0, .long 0, .int 0, .int 0]))] H := hP
            have hD : va_D A [(h0, .inr (11, [f0, .ref hn, f2, f3, f4, f5, f6, f7, f8, .int 0, .int 0, .int 0, .int 0, f13, f14, f15, .int 0, .int 0, .int 0, .int 0])), (hn, .inl (cN, 10, .inr (.inr (.inr (.inr (fun _ => none)))))), (q_12, .inr (3, [.int 0, .long 0, .int 0, .int 0]))] := hD
            refine W.widen (k := 1) (n := 4) (by decide +kernel) (by decide +kernel) ?_
            refine lv_dup hx hb dX11_link_102 rfl ?_
            refine lv_aload_n hx hb dX11_link_103 rfl (lv_at hl 1 rfl) ?_
            refine va_get (D := (dC, dI)) (ci := 11) (v := .int 0) (C := RX11) (T := TX11) (N := 20) hx hb hts (fun w h => List.mem_cons_of_mem _ (List.mem_append_right _ (List.mem_append_right _ (List.mem_append_right _ (List.mem_append_left _ h))))) hown hK hP 0 rfl rfl 10 (by decide +kernel) (hts (.fieldLink RX11 90 "SixNet" "linkCount" "I") (List.mem_cons_of_mem _ (List.mem_append_left _ (List.mem_of_getElem? (i := 0) rfl)))) (fun _ h9 => h9) rfl dX11_link_104 ?_
            refine lv_lload_n hx hb dX11_link_107 rfl (lv_at hl 2 rfl) ?_
            refine lv_iload_n hx hb dX11_link_108 rfl (lv_at hl 3 rfl) ?_
            have hPc := hP.sub (ws' := [(q_12, .inr (3, [.int 0, .long 0, .int 0, .int 0]))]) [2] rfl
            have hDc := hD.sub (ws' := [(q_12, .inr (3, [.int 0, .long 0, .int 0, .int 0]))]) [2] (by decide +kernel) rfl
            have hKc := hK.sub (tys' := []) [] rfl
            have hFc := va_free (wc := [(q_12, .inr (3, [.int 0, .long 0, .int 0, .int 0]))]) hD hS hA [2] rfl
            have hr_15c : 1 + 0 ≤ 1 := by decide +kernel
            have hr_15s : 4 + 0 ≤ 4 := by decide +kernel
            refine va_callv (va_runI (As := [.int 0, .long xm, .int k]) (rest := [.ref q_12, .int 0, .ref hn]) ⟨hx, hb, hml, hown, hts⟩ (k_X3_init l dC dI H.size q_12 0 xm k) (cwI 3 hts wq_X11_link_g4 rfl rfl rfl (hts (.initialized RX3) (List.mem_cons_of_mem _ (List.mem_append_left _ (List.mem_of_getElem? (i := 4) rfl)))) (hts (.methodLink RX11 97 yX3_init) (List.mem_cons_of_mem _ (List.mem_append_left _ (List.mem_of_getElem? (i := 5) rfl)))) (hts (.instanceMethod yX3_init) (List.mem_cons_of_mem _ (List.mem_append_left _ (List.mem_of_getElem? (i := 6) rfl)))) rfl (by decide +kernel) ⟨Nat.le_of_ble_eq_true rfl, Nat.le_of_ble_eq_true rfl⟩) ⟨fun a U g mk q => by obtain ⟨q0, q1, qP, qK, qD⟩ := q; exact ⟨q0, q1, qP, va_K.moved (u := U) (U := U.calling g mk a) (Vm.Alike.refl U.vm) qK, qD⟩, fun U hU hW => ⟨rfl, by rw [hU], by rw [hU]; exact hPc, va_K.moved hW.alike hKc, hDc.weaken (fun _ _ _ _ => trivial)⟩⟩ rfl rfl hl.1 rfl (lv_room (Nat.le_of_ble_eq_true rfl)) dX11_link_109 ⟨hr_15c, hr_15s⟩) hS (fun q _ h => hFc q h) hFc (fun u t H1 locs ht hvm hw hB hz1 hk1 hS => ?_)
            obtain ⟨hP1, hK1, hD1⟩ := hB
            rw [ht] at hP1
            obtain ⟨hP, hD⟩ := va_join (wr := [(h0, .inr (11, [f0, .ref hn, f2, f3, f4, f5, f6, f7, f8, .int 0, .int 0, .int 0, .int 0, f13, f14, f15, .int 0, .int 0, .int 0, .int 0])), (hn, .inl (cN, 10, .inr (.inr (.inr (.inr (fun _ => none))))))]) (w1 := [(q_12, .inr (3, [.int 0, .long xm, .int k, .int 1]))]) hP hD [2] [0, 1] rfl rfl (by decide +kernel) (by decide +kernel) hk1 hFc hP1 hD1
            generalize H1 = H at hP hS ⊢
            have hP : va_P (dC, dI) vwCl [(h0, .inr (11, [f0, .ref hn, f2, f3, f4, f5, f6, f7, f8, .int 0, .int 0, .int 0, .int 0, f13, f14, f15, .int 0, .int 0, .int 0, .int 0])), (hn, .inl (cN, 10, .inr (.inr (.inr (.inr (fun _ => none)))))), (q_12, .inr (3, [.int 0, .long xm, .int k, .int 1]))] H := hP
            have hD : va_D A [(h0, .inr (11, [f0, .ref hn, f2, f3, f4, f5, f6, f7, f8, .int 0, .int 0, .int 0, .int 0, f13, f14, f15, .int 0, .int 0, .int 0, .int 0])), (hn, .inl (cN, 10, .inr (.inr (.inr (.inr (fun _ => none)))))), (q_12, .inr (3, [.int 0, .long xm, .int k, .int 1]))] := hD
            refine va_astq (D := (dC, dI)) hx hb hK hP hD hS 1 0 2 3 rfl rfl rfl rfl (by unfold vp_in; decide +kernel) dX11_link_112 (fun H locs hP hD hS => ?_)
            have hP := hP.sub (ws' := [(h0, .inr (11, [f0, .ref hn, f2, f3, f4, f5, f6, f7, f8, .int 0, .int 0, .int 0, .int 0, f13, f14, f15, .int 0, .int 0, .int 0, .int 0])), (q_12, .inr (3, [.int 0, .long xm, .int k, .int 1]))]) [0, 2] rfl
            have hD := hD.sub (ws' := [(h0, .inr (11, [f0, .ref hn, f2, f3, f4, f5, f6, f7, f8, .int 0, .int 0, .int 0, .int 0, f13, f14, f15, .int 0, .int 0, .int 0, .int 0])), (q_12, .inr (3, [.int 0, .long xm, .int k, .int 1]))]) [0, 2] (by decide +kernel) rfl
            have hP : va_P (dC, dI) vwCl [(h0, .inr (11, [f0, .ref hn, f2, f3, f4, f5, f6, f7, f8, .int 0, .int 0, .int 0, .int 0, f13, f14, f15, .int 0, .int 0, .int 0, .int 0])), (q_12, .inr (3, [.int 0, .long xm, .int k, .int 1]))] H := hP
            have hD : va_D A [(h0, .inr (11, [f0, .ref hn, f2, f3, f4, f5, f6, f7, f8, .int 0, .int 0, .int 0, .int 0, f13, f14, f15, .int 0, .int 0, .int 0, .int 0])), (q_12, .inr (3, [.int 0, .long xm, .int k, .int 1]))] := hD
            refine lv_aload_n hx hb dX11_link_113 rfl (lv_at hl 1 rfl) ?_
            refine lv_dup hx hb dX11_link_114 rfl ?_
            refine va_get (D := (dC, dI)) (ci := 11) (v := .int 0) (C := RX11) (T := TX11) (N := 20) hx hb hts (fun w h => List.mem_cons_of_mem _ (List.mem_append_right _ (List.mem_append_right _ (List.mem_append_right _ (List.mem_append_left _ h))))) hown hK hP 0 rfl rfl 10 (by decide +kernel) (hts (.fieldLink RX11 90 "SixNet" "linkCount" "I") (List.mem_cons_of_mem _ (List.mem_append_left _ (List.mem_of_getElem? (i := 0) rfl)))) (fun _ h9 => h9) rfl dX11_link_115 ?_
            refine lv_iconst (v := 1) hx hb dX11_link_118 (by decide +kernel) ?_
            refine lv_iadd hx hb dX11_link_119 ?_
            refine lv_topi (fun n_16 en_16 => ?_)
            have en_16 : n_16 = 1 := en_16.trans (by decide +kernel)
            subst en_16
            refine va_put (D := (dC, dI)) (ci := 11) (v := .int 1) (ty := .int) (C := RX11) (T := TX11) (N := 20) hx hb hts (fun w h => List.mem_cons_of_mem _ (List.mem_append_right _ (List.mem_append_right _ (List.mem_append_right _ (List.mem_append_left _ h))))) tyX11 tyX11_ok nmX11 hown hK hP hD hS 0 rfl rfl 10 (by decide +kernel) (hts (.fieldLink RX11 90 "SixNet" "linkCount" "I") (List.mem_cons_of_mem _ (List.mem_append_left _ (List.mem_of_getElem? (i := 0) rfl)))) (fun _ h9 => h9) rfl (by decide +kernel) rfl rfl (Nat.le_of_ble_eq_true rfl) dX11_link_120 (fun H locs hP hD hS => ?_)
            have hP : va_P (dC, dI) vwCl [(h0, .inr (11, [f0, .ref hn, f2, f3, f4, f5, f6, f7, f8, .int 0, .int 1, .int 0, .int 0, f13, f14, f15, .int 0, .int 0, .int 0, .int 0])), (q_12, .inr (3, [.int 0, .long xm, .int k, .int 1]))] H := hP
            have hD : va_D A [(h0, .inr (11, [f0, .ref hn, f2, f3, f4, f5, f6, f7, f8, .int 0, .int 1, .int 0, .int 0, f13, f14, f15, .int 0, .int 0, .int 0, .int 0])), (q_12, .inr (3, [.int 0, .long xm, .int k, .int 1]))] := hD
            refine lv_aload_n hx hb dX11_link_123 rfl (lv_at hl 1 rfl) ?_
            refine lv_aload_n hx hb dX11_link_124 rfl (lv_at hl 1 rfl) ?_
            refine va_get (D := (dC, dI)) (ci := 11) (v := .int 1) (C := RX11) (T := TX11) (N := 20) hx hb hts (fun w h => List.mem_cons_of_mem _ (List.mem_append_right _ (List.mem_append_right _ (List.mem_append_right _ (List.mem_append_left _ h))))) hown hK hP 0 rfl rfl 10 (by decide +kernel) (hts (.fieldLink RX11 90 "SixNet" "linkCount" "I") (List.mem_cons_of_mem _ (List.mem_append_left _ (List.mem_of_getElem? (i := 0) rfl)))) (fun _ h9 => h9) rfl dX11_link_125 ?_
            refine lv_iconst (v := 1) hx hb dX11_link_128 (by decide +kernel) ?_
            refine lv_isub hx hb dX11_link_129 ?_
            refine lv_topi (fun n_17 en_17 => ?_)
            have en_17 : n_17 = 0 := en_17.trans (by decide +kernel)
            subst en_17
            have hPc := hP.sub (ws' := [(h0, .inr (11, [f0, .ref hn, f2, f3, f4, f5, f6, f7, f8, .int 0, .int 1, .int 0, .int 0, f13, f14, f15, .int 0, .int 0, .int 0, .int 0]))]) [0] rfl
            have hDc := hD.sub (ws' := [(h0, .inr (11, [f0, .ref hn, f2, f3, f4, f5, f6, f7, f8, .int 0, .int 1, .int 0, .int 0, f13, f14, f15, .int 0, .int 0, .int 0, .int 0]))]) [0] (by decide +kernel) rfl
            have hKc := hK.sub (tys' := []) [] rfl
            have hFc := va_free (wc := [(h0, .inr (11, [f0, .ref hn, f2, f3, f4, f5, f6, f7, f8, .int 0, .int 1, .int 0, .int 0, f13, f14, f15, .int 0, .int 0, .int 0, .int 0]))]) hD hS hA [0] rfl
            have hr_19c : 1 + 0 ≤ 1 := by decide +kernel
            have hr_19s : 4 + 0 ≤ 4 := by decide +kernel
            refine va_calli (va_runV (As := [.int 0]) (rest := []) ⟨hx, hb, hml, hown, hts⟩ (k_X11_answer l dC dI H.size h0 f0 (.ref hn) f2 f3 f4 f5 f6 f7 f8 (.int 0) (.int 1) (.int 0) (.int 0) f13 f14 f15 (.int 0) (.int 0) (.int 0) (.int 0) 0) (cwV 1 hts wq_X11_link_g5 rfl rfl rfl (by decide +kernel) ⟨Nat.le_of_ble_eq_true rfl, Nat.le_of_ble_eq_true rfl⟩) ⟨fun a U g mk q => by obtain ⟨q0, q1, qP, qK, qD⟩ := q; exact ⟨q0, q1, qP, va_K.moved (u := U) (U := U.calling g mk a) (Vm.Alike.refl U.vm) qK, qD⟩, va_recv hKc hPc (ci := 11) (q0 := 0) rfl rfl, fun U hU hW => ⟨rfl, by rw [hU], by rw [hU]; exact hPc, va_K.moved hW.alike hKc, hDc.weaken (fun _ _ _ _ => trivial)⟩⟩ rfl rfl hl.1 rfl (lv_room (Nat.le_of_ble_eq_true rfl)) dX11_link_130 ⟨hr_19c, hr_19s⟩) hS (fun q _ h => hFc q h) hFc (fun r_18 u t H1 locs ht hvm hw hB hz1 hk1 hS => ?_)
            obtain ⟨hP1, hK1, hD1⟩ := hB
            rw [ht] at hP1
            obtain ⟨hP, hD⟩ := va_join (wr := [(q_12, .inr (3, [.int 0, .long xm, .int k, .int 1]))]) (w1 := [(h0, .inr (11, [f0, .ref hn, f2, f3, f4, f5, f6, f7, f8, .int 0, .int 1, .int 0, .int 0, f13, f14, f15, .int 0, .int 0, .int 0, .int 0]))]) hP hD [0] [1] rfl rfl (by decide +kernel) (by decide +kernel) hk1 hFc hP1 hD1
            generalize H1 = H at hP hS ⊢
            have hP : va_P (dC, dI) vwCl [(q_12, .inr (3, [.int 0, .long xm, .int k, .int 1])), (h0, .inr (11, [f0, .ref hn, f2, f3, f4, f5, f6, f7, f8, .int 0, .int 1, .int 0, .int 0, f13, f14, f15, .int 0, .int 0, .int 0, .int 0]))] H := hP
            have hD : va_D A [(q_12, .inr (3, [.int 0, .long xm, .int k, .int 1])), (h0, .inr (11, [f0, .ref hn, f2, f3, f4, f5, f6, f7, f8, .int 0, .int 1, .int 0, .int 0, f13, f14, f15, .int 0, .int 0, .int 0, .int 0]))] := hD
            have hw : r_18 = 0 := hw
            subst hw
            exact W.iret (v := 0) hx hb hr (fun t ht hW => ⟨⟨0, (), rfl, (by (try simp only [Int32.lt_iff_toInt_lt, Int32.le_iff_toInt_le, show (1280 : Int32).toInt = 1280 from rfl, show (1500 : Int32).toInt = 1500 from rfl] at c_3); (try simp only [Int32.lt_iff_toInt_lt, Int32.le_iff_toInt_le, show (1280 : Int32).toInt = 1280 from rfl, show (1500 : Int32).toInt = 1500 from rfl] at c_6); (try simp only [Int32.lt_iff_toInt_lt, Int32.le_iff_toInt_le, show (1280 : Int32).toInt = 1280 from rfl, show (1500 : Int32).toInt = 1500 from rfl] at c_9); (try simp only [Int32.lt_iff_toInt_lt, Int32.le_iff_toInt_le, show (1280 : Int32).toInt = 1280 from rfl, show (1500 : Int32).toInt = 1500 from rfl] at c_10); (try simp only [Int32.lt_iff_toInt_lt, Int32.le_iff_toInt_le, show (1280 : Int32).toInt = 1280 from rfl, show (1500 : Int32).toInt = 1500 from rfl] at c_11); simp only [Int32.lt_iff_toInt_lt, Int32.le_iff_toInt_le, show (1280 : Int32).toInt = 1280 from rfl, show (1500 : Int32).toInt = 1500 from rfl]; rcases Classical.em (pp_g xm = 1) with hg | hg <;> simp only [hg, if_true, if_false, true_and, false_and] at c_3 ⊢ <;> first | rfl | exact absurd c_3 (by decide) | (split <;> first | rfl | omega)), trivial⟩, hS.F ht⟩) hS.2.2 dX11_link_133
          · exact absurd c_11 (by decide +kernel)
        · exact absurd c_10 (by decide +kernel)
      · refine lv_aload_n hx hb dX11_link_21 rfl (lv_at hl 0 rfl) ?_
        refine lv_iconst (v := 4) hx hb dX11_link_22 (by decide +kernel) ?_
        have hPc := hP.sub (ws' := [(h0, .inr (11, [f0, .ref hn, f2, f3, f4, f5, f6, f7, f8, .int 0, .int 0, .int 0, .int 0, f13, f14, f15, .int 0, .int 0, .int 0, .int 0]))]) [0] rfl
        have hDc := hD.sub (ws' := [(h0, .inr (11, [f0, .ref hn, f2, f3, f4, f5, f6, f7, f8, .int 0, .int 0, .int 0, .int 0, f13, f14, f15, .int 0, .int 0, .int 0, .int 0]))]) [0] (by decide +kernel) rfl
        have hKc := hK.sub (tys' := []) [] rfl
        have hFc := va_free (wc := [(h0, .inr (11, [f0, .ref hn, f2, f3, f4, f5, f6, f7, f8, .int 0, .int 0, .int 0, .int 0, f13, f14, f15, .int 0, .int 0, .int 0, .int 0]))]) hD hS hA [0] rfl
        have hr_21c : 0 + 0 ≤ 1 := by decide +kernel
        have hr_21s : 0 + 0 ≤ 4 := by decide +kernel
        refine va_calli (va_runV (As := [.int 4]) (rest := []) ⟨hx, hb, hml, hown, hts⟩ (k_X11_refuse l dC dI H.size h0 f0 (.ref hn) f2 f3 f4 f5 f6 f7 f8 (.int 0) (.int 0) (.int 0) (.int 0) f13 f14 f15 (.int 0) (.int 0) (.int 0) (.int 0) 4) (cwV 1 hts wq_X11_link_g1 rfl rfl rfl (by decide +kernel) ⟨Nat.le_of_ble_eq_true rfl, Nat.le_of_ble_eq_true rfl⟩) ⟨fun a U g mk q => by obtain ⟨q0, q1, qP, qK, qD⟩ := q; exact ⟨q0, q1, qP, va_K.moved (u := U) (U := U.calling g mk a) (Vm.Alike.refl U.vm) qK, qD⟩, va_recv hKc hPc (ci := 11) (q0 := 0) rfl rfl, fun U hU hW => ⟨rfl, by rw [hU], by rw [hU]; exact hPc, va_K.moved hW.alike hKc, hDc.weaken (fun _ _ _ _ => trivial)⟩⟩ rfl rfl hl.1 rfl (lv_room (Nat.le_of_ble_eq_true rfl)) dX11_link_23 ⟨hr_21c, hr_21s⟩) hS (fun q _ h => hFc q h) hFc (fun r_20 u t H1 locs ht hvm hw hB hz1 hk1 hS => ?_)
        obtain ⟨hP1, hK1, hD1⟩ := hB
        rw [ht] at hP1
        obtain ⟨hP, hD⟩ := va_join (wr := [(hn, .inl (cN, 10, .inr (.inr (.inr (.inr (fun _ => none))))))]) (w1 := [(h0, .inr (11, [f0, .ref hn, f2, f3, f4, f5, f6, f7, f8, .int 0, .int 0, .int 0, .int 0, f13, f14, f15, .int 0, .int 0, .int 0, .int 4]))]) hP hD [0] [1] rfl rfl (by decide +kernel) (by decide +kernel) hk1 hFc hP1 hD1
        generalize H1 = H at hP hS ⊢
        have hP : va_P (dC, dI) vwCl [(hn, .inl (cN, 10, .inr (.inr (.inr (.inr (fun _ => none)))))), (h0, .inr (11, [f0, .ref hn, f2, f3, f4, f5, f6, f7, f8, .int 0, .int 0, .int 0, .int 0, f13, f14, f15, .int 0, .int 0, .int 0, .int 4]))] H := hP
        have hD : va_D A [(hn, .inl (cN, 10, .inr (.inr (.inr (.inr (fun _ => none)))))), (h0, .inr (11, [f0, .ref hn, f2, f3, f4, f5, f6, f7, f8, .int 0, .int 0, .int 0, .int 0, f13, f14, f15, .int 0, .int 0, .int 0, .int 4]))] := hD
        have hw : r_20 = -1 := hw
        subst hw
        refine W.widen (k := 1) (n := 4) (by decide +kernel) (by decide +kernel) ?_
        exact W.iret (v := (-1)) hx hb hr (fun t ht hW => ⟨⟨(-1), (), rfl, (by (try simp only [Int32.lt_iff_toInt_lt, Int32.le_iff_toInt_le, show (1280 : Int32).toInt = 1280 from rfl, show (1500 : Int32).toInt = 1500 from rfl] at c_3); (try simp only [Int32.lt_iff_toInt_lt, Int32.le_iff_toInt_le, show (1280 : Int32).toInt = 1280 from rfl, show (1500 : Int32).toInt = 1500 from rfl] at c_6); (try simp only [Int32.lt_iff_toInt_lt, Int32.le_iff_toInt_le, show (1280 : Int32).toInt = 1280 from rfl, show (1500 : Int32).toInt = 1500 from rfl] at c_9); simp only [Int32.lt_iff_toInt_lt, Int32.le_iff_toInt_le, show (1280 : Int32).toInt = 1280 from rfl, show (1500 : Int32).toInt = 1500 from rfl]; rcases Classical.em (pp_g xm = 1) with hg | hg <;> simp only [hg, if_true, if_false, true_and, false_and] at c_3 ⊢ <;> first | rfl | exact absurd c_3 (by decide) | (split <;> first | rfl | omega)), trivial⟩, hS.F ht⟩) hS.2.2 dX11_link_26
def wq_X11_dropOldFrames_o : List Cond := [.fieldLink RX11 38 "SixNet" "flight" "LSixNet$Row;", .fieldLink RX11 229 "SixNet$Row" "count" "I"]
def wq_X11_dropOldFrames : List Cond := .code yX11_dropOldFrames cX11_dropOldFrames 3 none :: (wq_X11_dropOldFrames_o ++ (wsX110 ++ (wsX90 ++ ([]))))
set_option maxRecDepth 20000 in
theorem gt_wq_X11_dropOldFrames : GoodIn lw_tbl wq_X11_dropOldFrames := goodIn_ca (goodIn_p (.code yX11_dropOldFrames cX11_dropOldFrames 3 none :: wq_X11_dropOldFrames_o) [1062] (by decide +kernel) (by decide +kernel)) (goodIn_app gt_wsX110 (goodIn_app gt_wsX90 (fun _ h => absurd h List.not_mem_nil)))
set_option maxHeartbeats 4000000 in
set_option maxRecDepth 100000 in
theorem k_X11_dropOldFrames (l : Launch) (dC : Nat → ClassId) (dI : Nat → Nat → Nat) (sz : Nat) (h0 : Nat) (f0 : Value) (f1 : Value) (f2 : Value) (f3 : Value) (f5 : Value) (f6 : Value) (f7 : Value) (f8 : Value) (f9 : Value) (f10 : Value) (f11 : Value) (f12 : Value) (f13 : Value) (f14 : Value) (f15 : Value) (f16 : Value) (f17 : Value) (f18 : Value) (f19 : Value) (hf : Nat) (g0 : Value) : Met l yX11_dropOldFrames wq_X11_dropOldFrames ({ frames := 4, cells := 0, slots := 0, locals := 200 }) (va_Pc [.ref h0] (fun U => U.heap.size = sz ∧ va_P (dC, dI) vwCl [(h0, .inr (11, [f0, f1, f2, f3, .ref hf, f5, f6, f7, f8, f9, f10, f11, f12, f13, f14, f15, f16, f17, f18, f19])), (hf, .inr (9, [g0, .int 0]))] U.heap ∧ va_K (dC, dI) vwCl [] U ∧ va_D (fun _ => True) [(h0, .inr (11, [f0, f1, f2, f3, .ref hf, f5, f6, f7, f8, f9, f10, f11, f12, f13, f14, f15, f16, f17, f18, f19])), (hf, .inr (9, [g0, .int 0]))])) (va_Qv (fun (_ : Unit) => True) (fun (_ : Unit) (t : State) => va_P (dC, dI) vwCl [(h0, .inr (11, [f0, f1, f2, f3, .ref hf, f5, f6, f7, f8, f9, f10, f11, f12, f13, f14, f15, f16, f17, f18, f19])), (hf, .inr (9, [g0, .int 0]))] t.heap ∧ va_K (dC, dI) vwCl [] t ∧ va_D (va_A [(h0, .inr (11, [f0, f1, f2, f3, .ref hf, f5, f6, f7, f8, f9, f10, f11, f12, f13, f14, f15, f16, f17, f18, f19])), (hf, .inr (9, [g0, .int 0]))] sz) [(h0, .inr (11, [f0, f1, f2, f3, .ref hf, f5, f6, f7, f8, f9, f10, f11, f12, f13, f14, f15, f16, f17, f18, f19])), (hf, .inr (9, [g0, .int 0]))]) (va_A [(h0, .inr (11, [f0, f1, f2, f3, .ref hf, f5, f6, f7, f8, f9, f10, f11, f12, f13, f14, f15, f16, f17, f18, f19])), (hf, .inr (9, [g0, .int 0]))] sz)) 0 0 (va_A [(h0, .inr (11, [f0, f1, f2, f3, .ref hf, f5, f6, f7, f8, f9, f10, f11, f12, f13, f14, f15, f16, f17, f18, f19])), (hf, .inr (9, [g0, .int 0]))] sz) := by
  refine Met.ofW (cc := cX11_dropOldFrames) (maxL := 3) (ret := none) (by decide +kernel) rfl ?_
  intro p e s m args below meth c s₁ B hml hv
  obtain ⟨rfl, hsz, hP, hK, hD0⟩ := hv
  have hx := B.exec
  have hb := B.bytes
  have hr := B.returns
  have hts := atoms_spec (ws := wq_X11_dropOldFrames) B.pre
  have hown : s.vm.findClass RX11 = some m.cls := findClass_of_methodNamed B.named
  have hlocks := B.notSynchronized
  subst hsz
  have hD := hD0.self (sz := s.heap.size)
  generalize hAe : va_A [(h0, .inr (11, [f0, f1, f2, f3, .ref hf, f5, f6, f7, f8, f9, f10, f11, f12, f13, f14, f15, f16, f17, f18, f19])), (hf, .inr (9, [g0, .int 0]))] s.heap.size = A at hD ⊢
  have hA : ∀ q : Nat, s.heap.size ≤ q → A q := fun q h => by rw [← hAe]; exact Or.inr h
  have hS : va_S A s.heap s.heap [] := va_S.rf
  have hP : va_P (dC, dI) vwCl [(h0, .inr (11, [f0, f1, f2, f3, .ref hf, f5, f6, f7, f8, f9, f10, f11, f12, f13, f14, f15, f16, f17, f18, f19])), (hf, .inr (9, [g0, .int 0]))] s.heap := hP
  have hl := lv_entry ([.ref h0]) (n := 3) (Nat.le_of_ble_eq_true rfl)
  rw [lg_entry_eq]
  generalize (lg_sl ([.ref h0]) ++ List.replicate (3 - (lg_sl ([.ref h0])).length) Slot.unset).toArray = ls at hl ⊢
  have hl : lv_has ls 3 [(0, .ref h0)] := hl
  refine lv_aload_n hx hb dX11_dropOldFrames_0 rfl (lv_at hl 0 rfl) ?_
  refine va_get (D := (dC, dI)) (ci := 11) (v := .ref hf) (C := RX11) (T := TX11) (N := 20) hx hb hts (fun w h => List.mem_cons_of_mem _ (List.mem_append_right _ (List.mem_append_left _ h))) hown hK hP 0 rfl rfl 4 (by decide +kernel) (hts (.fieldLink RX11 38 "SixNet" "flight" "LSixNet$Row;") (List.mem_cons_of_mem _ (List.mem_append_left _ (List.mem_of_getElem? (i := 0) rfl)))) (fun _ h9 => h9) rfl dX11_dropOldFrames_1 ?_
  refine va_get (D := (dC, dI)) (ci := 9) (v := .int 0) (C := RX9) (T := TX9) (N := 2) hx hb hts (fun w h => List.mem_cons_of_mem _ (List.mem_append_right _ (List.mem_append_right _ (List.mem_append_left _ h)))) hown hK hP 1 rfl rfl 1 (by decide +kernel) (hts (.fieldLink RX11 229 "SixNet$Row" "count" "I") (List.mem_cons_of_mem _ (List.mem_append_left _ (List.mem_of_getElem? (i := 1) rfl)))) (fun _ h9 => h9) rfl dX11_dropOldFrames_4 ?_
  refine lv_iconst (v := 1) hx hb dX11_dropOldFrames_7 (by decide +kernel) ?_
  refine lv_isub hx hb dX11_dropOldFrames_8 ?_
  refine lv_topi (fun n_1 en_1 => ?_)
  have en_1 : n_1 = (-1) := en_1.trans (by decide +kernel)
  subst en_1
  refine lv_istore_n (lv' := [(1, .int (-1)), (0, .ref h0)]) hx hb dX11_dropOldFrames_9 rfl hl (by decide +kernel) rfl (fun ls hl => ?_)
  refine lv_iload_n hx hb dX11_dropOldFrames_10 rfl (lv_at hl 0 rfl) ?_
  refine lv_if_lt (tgt := 55) hx hb dX11_dropOldFrames_11 (by decide +kernel) (fun c_2 => ?_) (fun c_2 => ?_)
  · have hP9 := hP.sub (ws' := [(h0, .inr (11, [f0, f1, f2, f3, .ref hf, f5, f6, f7, f8, f9, f10, f11, f12, f13, f14, f15, f16, f17, f18, f19])), (hf, .inr (9, [g0, .int 0]))]) [0, 1] rfl
    have hD9 := hD.sub (ws' := [(h0, .inr (11, [f0, f1, f2, f3, .ref hf, f5, f6, f7, f8, f9, f10, f11, f12, f13, f14, f15, f16, f17, f18, f19])), (hf, .inr (9, [g0, .int 0]))]) [0, 1] (by decide +kernel) rfl
    have hK9 := hK.sub (tys' := []) [] rfl
    exact W.vret hx hb hr (fun t ht hW => ⟨⟨(), rfl, trivial, by rw [ht]; exact hP9, va_K.moved hW.alike hK9, hD9⟩, hS.F ht⟩) hS.2.2 dX11_dropOldFrames_55
  · exact absurd c_2 (by decide +kernel)
def wq_X11_tick_o : List Cond := [.fieldLink RX11 142 "SixNet" "now" "I", .fieldLink RX11 72 "SixNet" "nodeCount" "I"]
def wq_X11_tick : List Cond := .code yX11_tick cX11_tick 5 (some .int) :: (wq_X11_tick_o ++ ((wsV RX11 76 RX11 yX11_refuse wq_X11_refuse) ++ (wsX110 ++ ((wsV RX11 83 RX11 yX11_answer wq_X11_answer) ++ ((wsV RX11 198 RX11 yX11_dropOldFrames wq_X11_dropOldFrames) ++ ([]))))))
set_option maxRecDepth 20000 in
theorem gt_wq_X11_tick : GoodIn lw_tbl wq_X11_tick := goodIn_ca (goodIn_p (.code yX11_tick cX11_tick 5 (some .int) :: wq_X11_tick_o) [1058] (by decide +kernel) (by decide +kernel)) (goodIn_app (goodIn_app (goodIn_of _ (by decide +kernel)) gt_wq_X11_refuse) (goodIn_app gt_wsX110 (goodIn_app (goodIn_app (goodIn_of _ (by decide +kernel)) gt_wq_X11_answer) (goodIn_app (goodIn_app (goodIn_of _ (by decide +kernel)) gt_wq_X11_dropOldFrames) (fun _ h => absurd h List.not_mem_nil)))))
set_option maxRecDepth 20000 in
theorem wq_X11_tick_g0 : GoodIn wq_X11_tick (wsV RX11 76 RX11 yX11_refuse wq_X11_refuse) := goodIn_sub (fun w h => List.mem_cons_of_mem _ (List.mem_append_right _ (List.mem_append_left _ h))) (by decide +kernel)
set_option maxRecDepth 20000 in
theorem wq_X11_tick_g2 : GoodIn wq_X11_tick (wsV RX11 83 RX11 yX11_answer wq_X11_answer) := goodIn_sub (fun w h => List.mem_cons_of_mem _ (List.mem_append_right _ (List.mem_append_right _ (List.mem_append_right _ (List.mem_append_left _ h))))) (by decide +kernel)
set_option maxRecDepth 20000 in
theorem wq_X11_tick_g3 : GoodIn wq_X11_tick (wsV RX11 198 RX11 yX11_dropOldFrames wq_X11_dropOldFrames) := goodIn_sub (fun w h => List.mem_cons_of_mem _ (List.mem_append_right _ (List.mem_append_right _ (List.mem_append_right _ (List.mem_append_right _ (List.mem_append_left _ h)))))) (by decide +kernel)
set_option maxHeartbeats 4000000 in
set_option maxRecDepth 100000 in
theorem k_X11_tick (l : Launch) (dC : Nat → ClassId) (dI : Nat → Nat → Nat) (sz : Nat) (h0 : Nat) (f0 : Value) (f1 : Value) (f2 : Value) (f3 : Value) (f5 : Value) (f6 : Value) (f7 : Value) (f8 : Value) (f13 : Value) (f14 : Value) (f15 : Value) (hf : Nat) (g0 : Value) (k : Int32) : Met l yX11_tick wq_X11_tick ({ frames := 10, cells := 0, slots := 0, locals := 1200 }) (va_Pc [.ref h0, .int k] (fun U => U.heap.size = sz ∧ va_P (dC, dI) vwCl [(h0, .inr (11, [f0, f1, f2, f3, .ref hf, f5, f6, f7, f8, .int 0, .int 0, .int 0, .int 0, f13, f14, f15, .int 0, .int 0, .int 0, .int 0])), (hf, .inr (9, [g0, .int 0]))] U.heap ∧ va_K (dC, dI) vwCl [] U ∧ va_D (fun _ => True) [(h0, .inr (11, [f0, f1, f2, f3, .ref hf, f5, f6, f7, f8, .int 0, .int 0, .int 0, .int 0, f13, f14, f15, .int 0, .int 0, .int 0, .int 0])), (hf, .inr (9, [g0, .int 0]))])) (va_Qi (fun (r : Int32) (_ : Unit) => r = (if 1 ≤ k ∧ k ≤ 40 then k else -1)) (fun (_ : Unit) (_ : State) => True) (va_A [(h0, .inr (11, [f0, f1, f2, f3, .ref hf, f5, f6, f7, f8, .int 0, .int 0, .int 0, .int 0, f13, f14, f15, .int 0, .int 0, .int 0, .int 0])), (hf, .inr (9, [g0, .int 0]))] sz)) 0 0 (va_A [(h0, .inr (11, [f0, f1, f2, f3, .ref hf, f5, f6, f7, f8, .int 0, .int 0, .int 0, .int 0, f13, f14, f15, .int 0, .int 0, .int 0, .int 0])), (hf, .inr (9, [g0, .int 0]))] sz) := by
  refine Met.ofW (cc := cX11_tick) (maxL := 5) (ret := (some .int)) (by decide +kernel) rfl ?_
  intro p e s m args below meth c s₁ B hml hv
  obtain ⟨rfl, hsz, hP, hK, hD0⟩ := hv
  have hx := B.exec
  have hb := B.bytes
  have hr := B.returns
  have hts := atoms_spec (ws := wq_X11_tick) B.pre
  have hown : s.vm.findClass RX11 = some m.cls := findClass_of_methodNamed B.named
  have hlocks := B.notSynchronized
  subst hsz
  have hD := hD0.self (sz := s.heap.size)
  generalize hAe : va_A [(h0, .inr (11, [f0, f1, f2, f3, .ref hf, f5, f6, f7, f8, .int 0, .int 0, .int 0, .int 0, f13, f14, f15, .int 0, .int 0, .int 0, .int 0])), (hf, .inr (9, [g0, .int 0]))] s.heap.size = A at hD ⊢
  have hA : ∀ q : Nat, s.heap.size ≤ q → A q := fun q h => by rw [← hAe]; exact Or.inr h
  have hS : va_S A s.heap s.heap [] := va_S.rf
  have hP : va_P (dC, dI) vwCl [(h0, .inr (11, [f0, f1, f2, f3, .ref hf, f5, f6, f7, f8, .int 0, .int 0, .int 0, .int 0, f13, f14, f15, .int 0, .int 0, .int 0, .int 0])), (hf, .inr (9, [g0, .int 0]))] s.heap := hP
  have hl := lv_entry ([.ref h0, .int k]) (n := 5) (Nat.le_of_ble_eq_true rfl)
  rw [lg_entry_eq]
  generalize (lg_sl ([.ref h0, .int k]) ++ List.replicate (5 - (lg_sl ([.ref h0, .int k])).length) Slot.unset).toArray = ls at hl ⊢
  have hl : lv_has ls 5 [(0, .ref h0), (1, .int k)] := hl
  refine lv_iload_n hx hb dX11_tick_0 rfl (lv_at hl 1 rfl) ?_
  refine lv_iconst (v := 1) hx hb dX11_tick_1 (by decide +kernel) ?_
  refine lv_icmp_lt (tgt := 11) hx hb dX11_tick_2 (by decide +kernel) (fun c_1 => ?_) (fun c_1 => ?_)
  · refine lv_aload_n hx hb dX11_tick_11 rfl (lv_at hl 0 rfl) ?_
    refine lv_iconst (v := 4) hx hb dX11_tick_12 (by decide +kernel) ?_
    have hPc := hP.sub (ws' := [(h0, .inr (11, [f0, f1, f2, f3, .ref hf, f5, f6, f7, f8, .int 0, .int 0, .int 0, .int 0, f13, f14, f15, .int 0, .int 0, .int 0, .int 0]))]) [0] rfl
    have hDc := hD.sub (ws' := [(h0, .inr (11, [f0, f1, f2, f3, .ref hf, f5, f6, f7, f8, .int 0, .int 0, .int 0, .int 0, f13, f14, f15, .int 0, .int 0, .int 0, .int 0]))]) [0] (by decide +kernel) rfl
    have hKc := hK.sub (tys' := []) [] rfl
    have hFc := va_free (wc := [(h0, .inr (11, [f0, f1, f2, f3, .ref hf, f5, f6, f7, f8, .int 0, .int 0, .int 0, .int 0, f13, f14, f15, .int 0, .int 0, .int 0, .int 0]))]) hD hS hA [0] rfl
    have hr_3c : 0 + 0 ≤ 0 := by decide +kernel
    have hr_3s : 0 + 0 ≤ 0 := by decide +kernel
    refine va_calli (va_runV (As := [.int 4]) (rest := []) ⟨hx, hb, hml, hown, hts⟩ (k_X11_refuse l dC dI s.heap.size h0 f0 f1 f2 f3 (.ref hf) f5 f6 f7 f8 (.int 0) (.int 0) (.int 0) (.int 0) f13 f14 f15 (.int 0) (.int 0) (.int 0) (.int 0) 4) (cwV 1 hts wq_X11_tick_g0 rfl rfl rfl (by decide +kernel) ⟨Nat.le_of_ble_eq_true rfl, Nat.le_of_ble_eq_true rfl⟩) ⟨fun a U g mk q => by obtain ⟨q0, q1, qP, qK, qD⟩ := q; exact ⟨q0, q1, qP, va_K.moved (u := U) (U := U.calling g mk a) (Vm.Alike.refl U.vm) qK, qD⟩, va_recv hKc hPc (ci := 11) (q0 := 0) rfl rfl, fun U hU hW => ⟨rfl, by rw [hU], by rw [hU]; exact hPc, va_K.moved hW.alike hKc, hDc.weaken (fun _ _ _ _ => trivial)⟩⟩ rfl rfl hl.1 rfl (lv_room (Nat.le_of_ble_eq_true rfl)) dX11_tick_13 ⟨hr_3c, hr_3s⟩) hS (fun q _ h => hFc q h) hFc (fun r_2 u t H1 locs ht hvm hw hB hz1 hk1 hS => ?_)
    obtain ⟨hP1, hK1, hD1⟩ := hB
    rw [ht] at hP1
    obtain ⟨hP, hD⟩ := va_join (wr := [(hf, .inr (9, [g0, .int 0]))]) (w1 := [(h0, .inr (11, [f0, f1, f2, f3, .ref hf, f5, f6, f7, f8, .int 0, .int 0, .int 0, .int 0, f13, f14, f15, .int 0, .int 0, .int 0, .int 4]))]) hP hD [0] [1] rfl rfl (by decide +kernel) (by decide +kernel) hk1 hFc hP1 hD1
    generalize H1 = H at hP hS ⊢
    have hP : va_P (dC, dI) vwCl [(hf, .inr (9, [g0, .int 0])), (h0, .inr (11, [f0, f1, f2, f3, .ref hf, f5, f6, f7, f8, .int 0, .int 0, .int 0, .int 0, f13, f14, f15, .int 0, .int 0, .int 0, .int 4]))] H := hP
    have hD : va_D A [(hf, .inr (9, [g0, .int 0])), (h0, .inr (11, [f0, f1, f2, f3, .ref hf, f5, f6, f7, f8, .int 0, .int 0, .int 0, .int 0, f13, f14, f15, .int 0, .int 0, .int 0, .int 4]))] := hD
    have hw : r_2 = -1 := hw
    subst hw
    exact W.iret (v := (-1)) hx hb hr (fun t ht hW => ⟨⟨(-1), (), rfl, (by (try simp only [Int32.lt_iff_toInt_lt, Int32.le_iff_toInt_le, show (1 : Int32).toInt = 1 from rfl, show (40 : Int32).toInt = 40 from rfl] at c_1); simp only [Int32.lt_iff_toInt_lt, Int32.le_iff_toInt_le, show (1 : Int32).toInt = 1 from rfl, show (40 : Int32).toInt = 40 from rfl]; split <;> first | rfl | omega), trivial⟩, hS.F ht⟩) hS.2.2 dX11_tick_16
  · refine lv_iload_n hx hb dX11_tick_5 rfl (lv_at hl 1 rfl) ?_
    refine lv_bipush (v := 40) hx hb dX11_tick_6 (by decide +kernel) ?_
    refine lv_icmp_le (tgt := 17) hx hb dX11_tick_8 (by decide +kernel) (fun c_4 => ?_) (fun c_4 => ?_)
    · refine lv_iconst (v := 0) hx hb dX11_tick_17 (by decide +kernel) ?_
      refine lv_istore_n (lv' := [(2, .int 0), (0, .ref h0), (1, .int k)]) hx hb dX11_tick_18 rfl hl (by decide +kernel) rfl (fun ls hl => ?_)
      have hkA : 1 ≤ k := Int32.not_lt.mp c_1
      have hkB : k ≤ 40 := c_4
      have loop : ∀ (n : Nat) (i : Int32) (H : Heap) (locs : List Loc) (ls : Array Slot), k.toInt = i.toInt + n → 0 ≤ i.toInt → va_P (dC, dI) vwCl [(h0, .inr (11, [f0, f1, f2, f3, .ref hf, f5, f6, f7, f8, .int 0, .int 0, .int 0, .int 0, f13, f14, f15, .int i, .int 0, .int 0, .int 0])), (hf, .inr (9, [g0, .int 0]))] H → va_D A [(h0, .inr (11, [f0, f1, f2, f3, .ref hf, f5, f6, f7, f8, .int 0, .int 0, .int 0, .int 0, f13, f14, f15, .int i, .int 0, .int 0, .int 0])), (hf, .inr (9, [g0, .int 0]))] → va_S A s.heap H locs → lv_has ls 5 [(2, .int i), (0, .ref h0), (1, .int k)] → W p l e (headSpec wq_X11_tick { frames := 10, cells := 0, slots := 0, locals := 1200 }).room s m #[.ref h0, .int k] below meth c H locs 0 0 (MQ below (va_Qi (fun (r : Int32) (_ : Unit) => r = (if 1 ≤ k ∧ k ≤ 40 then k else -1)) (fun (_ : Unit) (_ : State) => True) A) #[.ref h0, .int k] s 0 0 A) (F0 m 19 ls []) := by
        intro n
        induction n with
        | zero =>
          intro i H locs ls hn hi hP hD hS hl
          refine lv_iload_n hx hb dX11_tick_19 rfl (lv_at hl 0 rfl) ?_
          refine lv_iload_n hx hb dX11_tick_20 rfl (lv_at hl 2 rfl) ?_
          refine lv_icmp_ge (tgt := 120) hx hb dX11_tick_21 (by decide +kernel) (fun c_5 => ?_) (fun c_5 => ?_)
          · refine lv_aload_n hx hb dX11_tick_120 rfl (lv_at hl 1 rfl) ?_
            refine lv_aload_n hx hb dX11_tick_121 rfl (lv_at hl 1 rfl) ?_
            refine va_get (D := (dC, dI)) (ci := 11) (v := .int i) (C := RX11) (T := TX11) (N := 20) hx hb hts (fun w h => List.mem_cons_of_mem _ (List.mem_append_right _ (List.mem_append_right _ (List.mem_append_left _ h)))) hown hK hP 0 rfl rfl 16 (by decide +kernel) (hts (.fieldLink RX11 142 "SixNet" "now" "I") (List.mem_cons_of_mem _ (List.mem_append_left _ (List.mem_of_getElem? (i := 0) rfl)))) (fun _ h9 => h9) rfl dX11_tick_122 ?_
            have hPc := hP.sub (ws' := [(h0, .inr (11, [f0, f1, f2, f3, .ref hf, f5, f6, f7, f8, .int 0, .int 0, .int 0, .int 0, f13, f14, f15, .int i, .int 0, .int 0, .int 0]))]) [0] rfl
            have hDc := hD.sub (ws' := [(h0, .inr (11, [f0, f1, f2, f3, .ref hf, f5, f6, f7, f8, .int 0, .int 0, .int 0, .int 0, f13, f14, f15, .int i, .int 0, .int 0, .int 0]))]) [0] (by decide +kernel) rfl
            have hKc := hK.sub (tys' := []) [] rfl
            have hFc := va_free (wc := [(h0, .inr (11, [f0, f1, f2, f3, .ref hf, f5, f6, f7, f8, .int 0, .int 0, .int 0, .int 0, f13, f14, f15, .int i, .int 0, .int 0, .int 0]))]) hD hS hA [0] rfl
            have hr_7c : 0 + 0 ≤ 0 := by decide +kernel
            have hr_7s : 0 + 0 ≤ 0 := by decide +kernel
            refine va_calli (va_runV (As := [.int i]) (rest := []) ⟨hx, hb, hml, hown, hts⟩ (k_X11_answer l dC dI H.size h0 f0 f1 f2 f3 (.ref hf) f5 f6 f7 f8 (.int 0) (.int 0) (.int 0) (.int 0) f13 f14 f15 (.int i) (.int 0) (.int 0) (.int 0) i) (cwV 1 hts wq_X11_tick_g2 rfl rfl rfl (by decide +kernel) ⟨Nat.le_of_ble_eq_true rfl, Nat.le_of_ble_eq_true rfl⟩) ⟨fun a U g mk q => by obtain ⟨q0, q1, qP, qK, qD⟩ := q; exact ⟨q0, q1, qP, va_K.moved (u := U) (U := U.calling g mk a) (Vm.Alike.refl U.vm) qK, qD⟩, va_recv hKc hPc (ci := 11) (q0 := 0) rfl rfl, fun U hU hW => ⟨rfl, by rw [hU], by rw [hU]; exact hPc, va_K.moved hW.alike hKc, hDc.weaken (fun _ _ _ _ => trivial)⟩⟩ rfl rfl hl.1 rfl (lv_room (Nat.le_of_ble_eq_true rfl)) dX11_tick_125 ⟨hr_7c, hr_7s⟩) hS (fun q _ h => hFc q h) hFc (fun r_6 u t H1 locs ht hvm hw hB hz1 hk1 hS => ?_)
            obtain ⟨hP1, hK1, hD1⟩ := hB
            rw [ht] at hP1
            obtain ⟨hP, hD⟩ := va_join (wr := [(hf, .inr (9, [g0, .int 0]))]) (w1 := [(h0, .inr (11, [f0, f1, f2, f3, .ref hf, f5, f6, f7, f8, .int 0, .int 0, .int 0, .int 0, f13, f14, f15, .int i, .int 0, .int 0, .int 0]))]) hP hD [0] [1] rfl rfl (by decide +kernel) (by decide +kernel) hk1 hFc hP1 hD1
            generalize H1 = H at hP hS ⊢
            have hP : va_P (dC, dI) vwCl [(hf, .inr (9, [g0, .int 0])), (h0, .inr (11, [f0, f1, f2, f3, .ref hf, f5, f6, f7, f8, .int 0, .int 0, .int 0, .int 0, f13, f14, f15, .int i, .int 0, .int 0, .int 0]))] H := hP
            have hD : va_D A [(hf, .inr (9, [g0, .int 0])), (h0, .inr (11, [f0, f1, f2, f3, .ref hf, f5, f6, f7, f8, .int 0, .int 0, .int 0, .int 0, f13, f14, f15, .int i, .int 0, .int 0, .int 0]))] := hD
            have hw : r_6 = i := hw
            rw [hw]
            exact W.iret (v := i) hx hb hr (fun t ht hW => ⟨⟨i, (), rfl, (by rw [if_pos ⟨hkA, hkB⟩]; exact Int32.toInt_inj.mp (by omega)), trivial⟩, hS.F ht⟩) hS.2.2 dX11_tick_128
          · exact absurd (show k ≤ i by rw [Int32.le_iff_toInt_le]; omega) c_5
        | succ n ih =>
          intro i H locs ls hn hi hP hD hS hl
          refine lv_iload_n hx hb dX11_tick_19 rfl (lv_at hl 0 rfl) ?_
          refine lv_iload_n hx hb dX11_tick_20 rfl (lv_at hl 2 rfl) ?_
          refine lv_icmp_ge (tgt := 120) hx hb dX11_tick_21 (by decide +kernel) (fun c_8 => ?_) (fun c_8 => ?_)
          · exact absurd (Int32.le_iff_toInt_le.mp c_8) (by omega)
          · refine lv_aload_n hx hb dX11_tick_24 rfl (lv_at hl 1 rfl) ?_
            refine lv_dup hx hb dX11_tick_25 rfl ?_
            refine va_get (D := (dC, dI)) (ci := 11) (v := .int i) (C := RX11) (T := TX11) (N := 20) hx hb hts (fun w h => List.mem_cons_of_mem _ (List.mem_append_right _ (List.mem_append_right _ (List.mem_append_left _ h)))) hown hK hP 0 rfl rfl 16 (by decide +kernel) (hts (.fieldLink RX11 142 "SixNet" "now" "I") (List.mem_cons_of_mem _ (List.mem_append_left _ (List.mem_of_getElem? (i := 0) rfl)))) (fun _ h9 => h9) rfl dX11_tick_26 ?_
            refine lv_iconst (v := 1) hx hb dX11_tick_29 (by decide +kernel) ?_
            refine lv_iadd hx hb dX11_tick_30 ?_
            refine lv_topi (fun n_9 en_9 => ?_)
            refine va_put (D := (dC, dI)) (ci := 11) (v := .int n_9) (ty := .int) (C := RX11) (T := TX11) (N := 20) hx hb hts (fun w h => List.mem_cons_of_mem _ (List.mem_append_right _ (List.mem_append_right _ (List.mem_append_left _ h)))) tyX11 tyX11_ok nmX11 hown hK hP hD hS 0 rfl rfl 16 (by decide +kernel) (hts (.fieldLink RX11 142 "SixNet" "now" "I") (List.mem_cons_of_mem _ (List.mem_append_left _ (List.mem_of_getElem? (i := 0) rfl)))) (fun _ h9 => h9) rfl (by decide +kernel) rfl rfl (Nat.le_of_ble_eq_true rfl) dX11_tick_31 (fun H locs hP hD hS => ?_)
            have hP : va_P (dC, dI) vwCl [(h0, .inr (11, [f0, f1, f2, f3, .ref hf, f5, f6, f7, f8, .int 0, .int 0, .int 0, .int 0, f13, f14, f15, .int n_9, .int 0, .int 0, .int 0])), (hf, .inr (9, [g0, .int 0]))] H := hP
            have hD : va_D A [(h0, .inr (11, [f0, f1, f2, f3, .ref hf, f5, f6, f7, f8, .int 0, .int 0, .int 0, .int 0, f13, f14, f15, .int n_9, .int 0, .int 0, .int 0])), (hf, .inr (9, [g0, .int 0]))] := hD
            refine lv_aload_n hx hb dX11_tick_34 rfl (lv_at hl 1 rfl) ?_
            have hPc := hP.sub (ws' := [(h0, .inr (11, [f0, f1, f2, f3, .ref hf, f5, f6, f7, f8, .int 0, .int 0, .int 0, .int 0, f13, f14, f15, .int n_9, .int 0, .int 0, .int 0])), (hf, .inr (9, [g0, .int 0]))]) [0, 1] rfl
            have hDc := hD.sub (ws' := [(h0, .inr (11, [f0, f1, f2, f3, .ref hf, f5, f6, f7, f8, .int 0, .int 0, .int 0, .int 0, f13, f14, f15, .int n_9, .int 0, .int 0, .int 0])), (hf, .inr (9, [g0, .int 0]))]) [0, 1] (by decide +kernel) rfl
            have hKc := hK.sub (tys' := []) [] rfl
            have hFc := va_free (wc := [(h0, .inr (11, [f0, f1, f2, f3, .ref hf, f5, f6, f7, f8, .int 0, .int 0, .int 0, .int 0, f13, f14, f15, .int n_9, .int 0, .int 0, .int 0])), (hf, .inr (9, [g0, .int 0]))]) hD hS hA [0, 1] rfl
            have hr_11c : 0 + 0 ≤ 0 := by decide +kernel
            have hr_11s : 0 + 0 ≤ 0 := by decide +kernel
            refine va_callv (va_runV (As := []) (rest := []) ⟨hx, hb, hml, hown, hts⟩ (k_X11_dropOldFrames l dC dI H.size h0 f0 f1 f2 f3 f5 f6 f7 f8 (.int 0) (.int 0) (.int 0) (.int 0) f13 f14 f15 (.int n_9) (.int 0) (.int 0) (.int 0) hf g0) (cwV 0 hts wq_X11_tick_g3 rfl rfl rfl (by decide +kernel) ⟨Nat.le_of_ble_eq_true rfl, Nat.le_of_ble_eq_true rfl⟩) ⟨fun a U g mk q => by obtain ⟨q0, q1, qP, qK, qD⟩ := q; exact ⟨q0, q1, qP, va_K.moved (u := U) (U := U.calling g mk a) (Vm.Alike.refl U.vm) qK, qD⟩, va_recv hKc hPc (ci := 11) (q0 := 0) rfl rfl, fun U hU hW => ⟨rfl, by rw [hU], by rw [hU]; exact hPc, va_K.moved hW.alike hKc, hDc.weaken (fun _ _ _ _ => trivial)⟩⟩ rfl rfl hl.1 rfl (lv_room (Nat.le_of_ble_eq_true rfl)) dX11_tick_35 ⟨hr_11c, hr_11s⟩) hS (fun q _ h => hFc q h) hFc (fun u t H1 locs ht hvm hw hB hz1 hk1 hS => ?_)
            obtain ⟨hP1, hK1, hD1⟩ := hB
            rw [ht] at hP1
            obtain ⟨hP, hD⟩ := va_join (wr := []) (w1 := [(h0, .inr (11, [f0, f1, f2, f3, .ref hf, f5, f6, f7, f8, .int 0, .int 0, .int 0, .int 0, f13, f14, f15, .int n_9, .int 0, .int 0, .int 0])), (hf, .inr (9, [g0, .int 0]))]) hP hD [0, 1] [] rfl rfl (by decide +kernel) (by decide +kernel) hk1 hFc hP1 hD1
            generalize H1 = H at hP hS ⊢
            have hP : va_P (dC, dI) vwCl [(h0, .inr (11, [f0, f1, f2, f3, .ref hf, f5, f6, f7, f8, .int 0, .int 0, .int 0, .int 0, f13, f14, f15, .int n_9, .int 0, .int 0, .int 0])), (hf, .inr (9, [g0, .int 0]))] H := hP
            have hD : va_D A [(h0, .inr (11, [f0, f1, f2, f3, .ref hf, f5, f6, f7, f8, .int 0, .int 0, .int 0, .int 0, f13, f14, f15, .int n_9, .int 0, .int 0, .int 0])), (hf, .inr (9, [g0, .int 0]))] := hD
            refine lv_iconst (v := 0) hx hb dX11_tick_38 (by decide +kernel) ?_
            refine lv_istore_n (lv' := [(3, .int 0), (2, .int i), (0, .ref h0), (1, .int k)]) hx hb dX11_tick_39 rfl hl (by decide +kernel) rfl (fun ls hl => ?_)
            refine lv_iload_n hx hb dX11_tick_40 rfl (lv_at hl 0 rfl) ?_
            refine lv_aload_n hx hb dX11_tick_41 rfl (lv_at hl 2 rfl) ?_
            refine va_get (D := (dC, dI)) (ci := 11) (v := .int 0) (C := RX11) (T := TX11) (N := 20) hx hb hts (fun w h => List.mem_cons_of_mem _ (List.mem_append_right _ (List.mem_append_right _ (List.mem_append_left _ h)))) hown hK hP 0 rfl rfl 9 (by decide +kernel) (hts (.fieldLink RX11 72 "SixNet" "nodeCount" "I") (List.mem_cons_of_mem _ (List.mem_append_left _ (List.mem_of_getElem? (i := 1) rfl)))) (fun _ h9 => h9) rfl dX11_tick_42 ?_
            refine lv_icmp_ge (tgt := 114) hx hb dX11_tick_45 (by decide +kernel) (fun c_12 => ?_) (fun c_12 => ?_)
            · obtain ⟨n_13, en_13⟩ : ∃ y : Int32, y = i + 1 := ⟨_, rfl⟩
              refine lv_iinc (v := n_13) (lv' := [(2, .int n_13), (3, .int 0), (0, .ref h0), (1, .int k)]) hx hb dX11_tick_114 hl (k := 1) rfl (by rw [en_13]; rfl) (by decide +kernel) rfl (fun ls hl => ?_)
              refine lv_goto (tgt := 19) hx hb dX11_tick_117 (by decide +kernel) ?_
              have hj : n_13 = n_9 := by rw [en_13, en_9]
              have hi2 : (n_9).toInt = i.toInt + 1 := by rw [en_9, pp_inc hi (by have := Int32.le_iff_toInt_le.mp hkB; simp only [show (40 : Int32).toInt = 40 from rfl] at this; omega)]
              rw [hj] at hl
              exact ih (n_9) _ _ _ (by rw [hi2]; omega) (by rw [hi2]; omega) (hP.sub [0, 1] rfl) (hD.sub [0, 1] (by decide +kernel) rfl) hS (lv_sub hl [0, 2, 3] rfl)
            · exact absurd c_12 (by decide +kernel)
      exact loop k.toInt.toNat 0 _ _ _ (by have := Int32.le_iff_toInt_le.mp hkA; simp only [show (1 : Int32).toInt = 1 from rfl, show (0 : Int32).toInt = 0 from rfl] at this ⊢; omega) (by decide) hP hD hS hl
    · refine lv_aload_n hx hb dX11_tick_11 rfl (lv_at hl 0 rfl) ?_
      refine lv_iconst (v := 4) hx hb dX11_tick_12 (by decide +kernel) ?_
      have hPc := hP.sub (ws' := [(h0, .inr (11, [f0, f1, f2, f3, .ref hf, f5, f6, f7, f8, .int 0, .int 0, .int 0, .int 0, f13, f14, f15, .int 0, .int 0, .int 0, .int 0]))]) [0] rfl
      have hDc := hD.sub (ws' := [(h0, .inr (11, [f0, f1, f2, f3, .ref hf, f5, f6, f7, f8, .int 0, .int 0, .int 0, .int 0, f13, f14, f15, .int 0, .int 0, .int 0, .int 0]))]) [0] (by decide +kernel) rfl
      have hKc := hK.sub (tys' := []) [] rfl
      have hFc := va_free (wc := [(h0, .inr (11, [f0, f1, f2, f3, .ref hf, f5, f6, f7, f8, .int 0, .int 0, .int 0, .int 0, f13, f14, f15, .int 0, .int 0, .int 0, .int 0]))]) hD hS hA [0] rfl
      have hr_15c : 0 + 0 ≤ 0 := by decide +kernel
      have hr_15s : 0 + 0 ≤ 0 := by decide +kernel
      refine va_calli (va_runV (As := [.int 4]) (rest := []) ⟨hx, hb, hml, hown, hts⟩ (k_X11_refuse l dC dI s.heap.size h0 f0 f1 f2 f3 (.ref hf) f5 f6 f7 f8 (.int 0) (.int 0) (.int 0) (.int 0) f13 f14 f15 (.int 0) (.int 0) (.int 0) (.int 0) 4) (cwV 1 hts wq_X11_tick_g0 rfl rfl rfl (by decide +kernel) ⟨Nat.le_of_ble_eq_true rfl, Nat.le_of_ble_eq_true rfl⟩) ⟨fun a U g mk q => by obtain ⟨q0, q1, qP, qK, qD⟩ := q; exact ⟨q0, q1, qP, va_K.moved (u := U) (U := U.calling g mk a) (Vm.Alike.refl U.vm) qK, qD⟩, va_recv hKc hPc (ci := 11) (q0 := 0) rfl rfl, fun U hU hW => ⟨rfl, by rw [hU], by rw [hU]; exact hPc, va_K.moved hW.alike hKc, hDc.weaken (fun _ _ _ _ => trivial)⟩⟩ rfl rfl hl.1 rfl (lv_room (Nat.le_of_ble_eq_true rfl)) dX11_tick_13 ⟨hr_15c, hr_15s⟩) hS (fun q _ h => hFc q h) hFc (fun r_14 u t H1 locs ht hvm hw hB hz1 hk1 hS => ?_)
      obtain ⟨hP1, hK1, hD1⟩ := hB
      rw [ht] at hP1
      obtain ⟨hP, hD⟩ := va_join (wr := [(hf, .inr (9, [g0, .int 0]))]) (w1 := [(h0, .inr (11, [f0, f1, f2, f3, .ref hf, f5, f6, f7, f8, .int 0, .int 0, .int 0, .int 0, f13, f14, f15, .int 0, .int 0, .int 0, .int 4]))]) hP hD [0] [1] rfl rfl (by decide +kernel) (by decide +kernel) hk1 hFc hP1 hD1
      generalize H1 = H at hP hS ⊢
      have hP : va_P (dC, dI) vwCl [(hf, .inr (9, [g0, .int 0])), (h0, .inr (11, [f0, f1, f2, f3, .ref hf, f5, f6, f7, f8, .int 0, .int 0, .int 0, .int 0, f13, f14, f15, .int 0, .int 0, .int 0, .int 4]))] H := hP
      have hD : va_D A [(hf, .inr (9, [g0, .int 0])), (h0, .inr (11, [f0, f1, f2, f3, .ref hf, f5, f6, f7, f8, .int 0, .int 0, .int 0, .int 0, f13, f14, f15, .int 0, .int 0, .int 0, .int 4]))] := hD
      have hw : r_14 = -1 := hw
      subst hw
      exact W.iret (v := (-1)) hx hb hr (fun t ht hW => ⟨⟨(-1), (), rfl, (by (try simp only [Int32.lt_iff_toInt_lt, Int32.le_iff_toInt_le, show (1 : Int32).toInt = 1 from rfl, show (40 : Int32).toInt = 40 from rfl] at c_1); (try simp only [Int32.lt_iff_toInt_lt, Int32.le_iff_toInt_le, show (1 : Int32).toInt = 1 from rfl, show (40 : Int32).toInt = 40 from rfl] at c_4); simp only [Int32.lt_iff_toInt_lt, Int32.le_iff_toInt_le, show (1 : Int32).toInt = 1 from rfl, show (40 : Int32).toInt = 40 from rfl]; split <;> first | rfl | omega), trivial⟩, hS.F ht⟩) hS.2.2 dX11_tick_16
