def gTs : List Cond := lw_tbl.filter goodWord
def gNs : List Cond := lw_tbl.filter sm_isN
def gOs : List String := ["TreeAgent$Thing", "TreeAgent$Table", "TreeAgent$Community", "TreeAgent$Pair", "TreeAgent$Value", "TreeAgent$Chain"]
def gAts : List FieldType := [.int, .long, .boolean, .byte, .object "TreeAgent$Thing", .object "TreeAgent$Table", .object "TreeAgent$Community", .object "TreeAgent$Pair", .object "TreeAgent$Value", .object "TreeAgent$Chain"]
theorem gG : ∀ w ∈ gTs, goodWord w = true := fun w h => (List.mem_filter.mp h).2
theorem gN : ∀ w ∈ gNs, sm_isN w = true := fun w h => (List.mem_filter.mp h).2
theorem gT {w : Cond} (i : Nat) (h : tables_1[i]? = some w) (hg : goodWord w = true) : w ∈ gTs := List.mem_filter.mpr ⟨List.mem_append_right _ (List.mem_of_getElem? h), hg⟩
theorem gT2 {w : Cond} (i : Nat) (h : tables_1[i]? = some w) (hg : sm_isN w = true) : w ∈ gNs := List.mem_filter.mpr ⟨List.mem_append_right _ (List.mem_of_getElem? h), hg⟩
theorem gT3 {y : MethodName} (i : Nat) {n : Nat} (h : lw_privs[i]? = some (y, n)) (hg : goodWord (Cond.selects y.cls y y) = true) : Cond.selects y.cls y y ∈ gTs := List.mem_filter.mpr ⟨List.mem_append_left _ (List.mem_map.mpr ⟨(y, n), List.mem_of_getElem? h, rfl⟩), hg⟩
set_option maxRecDepth 100000 in
theorem kX0 : sm_Cl vwCl gTs 0 RX0 TX0 2 tyX0 := ⟨fun w hw => List.mem_filter.mpr ⟨List.mem_append_right _ (by revert w hw; decide +kernel), by revert w hw; decide +kernel⟩, rfl, tyX0_ok, nmX0⟩
set_option maxRecDepth 100000 in
theorem kX1 : sm_Cl vwCl gTs 1 RX1 TX1 2 tyX1 := ⟨fun w hw => List.mem_filter.mpr ⟨List.mem_append_right _ (by revert w hw; decide +kernel), by revert w hw; decide +kernel⟩, rfl, tyX1_ok, nmX1⟩
set_option maxRecDepth 100000 in
theorem kX2 : sm_Cl vwCl gTs 2 RX2 TX2 5 tyX2 := ⟨fun w hw => List.mem_filter.mpr ⟨List.mem_append_right _ (by revert w hw; decide +kernel), by revert w hw; decide +kernel⟩, rfl, tyX2_ok, nmX2⟩
set_option maxRecDepth 100000 in
theorem kX3 : sm_Cl vwCl gTs 3 RX3 TX3 9 tyX3 := ⟨fun w hw => List.mem_filter.mpr ⟨List.mem_append_right _ (by revert w hw; decide +kernel), by revert w hw; decide +kernel⟩, rfl, tyX3_ok, nmX3⟩
set_option maxRecDepth 100000 in
theorem kX4 : sm_Cl vwCl gTs 4 RX4 TX4 2 tyX4 := ⟨fun w hw => List.mem_filter.mpr ⟨List.mem_append_right _ (by revert w hw; decide +kernel), by revert w hw; decide +kernel⟩, rfl, tyX4_ok, nmX4⟩
set_option maxRecDepth 100000 in
theorem kX5 : sm_Cl vwCl gTs 5 RX5 TX5 3 tyX5 := ⟨fun w hw => List.mem_filter.mpr ⟨List.mem_append_right _ (by revert w hw; decide +kernel), by revert w hw; decide +kernel⟩, rfl, tyX5_ok, nmX5⟩
set_option maxRecDepth 100000 in
theorem kX6 : sm_Cl vwCl gTs 6 RX6 TX6 6 tyX6 := ⟨fun w hw => List.mem_filter.mpr ⟨List.mem_append_right _ (by revert w hw; decide +kernel), by revert w hw; decide +kernel⟩, rfl, tyX6_ok, nmX6⟩
set_option maxRecDepth 100000 in
theorem kX7 : sm_Cl vwCl gTs 7 RX7 TX7 6 tyX7 := ⟨fun w hw => List.mem_filter.mpr ⟨List.mem_append_right _ (by revert w hw; decide +kernel), by revert w hw; decide +kernel⟩, rfl, tyX7_ok, nmX7⟩
set_option maxRecDepth 100000 in
theorem kX8 : sm_Cl vwCl gTs 8 RX8 TX8 7 tyX8 := ⟨fun w hw => List.mem_filter.mpr ⟨List.mem_append_right _ (by revert w hw; decide +kernel), by revert w hw; decide +kernel⟩, rfl, tyX8_ok, nmX8⟩
set_option maxRecDepth 100000 in
theorem kX9 : sm_Cl vwCl gTs 9 RX9 TX9 5 tyX9 := ⟨fun w hw => List.mem_filter.mpr ⟨List.mem_append_right _ (by revert w hw; decide +kernel), by revert w hw; decide +kernel⟩, rfl, tyX9_ok, nmX9⟩
set_option maxRecDepth 100000 in
theorem kX10 : sm_Cl vwCl gTs 10 RX10 TX10 3 tyX10 := ⟨fun w hw => List.mem_filter.mpr ⟨List.mem_append_right _ (by revert w hw; decide +kernel), by revert w hw; decide +kernel⟩, rfl, tyX10_ok, nmX10⟩
set_option maxRecDepth 100000 in
theorem kX11 : sm_Cl vwCl gTs 11 RX11 TX11 17 tyX11 := ⟨fun w hw => List.mem_filter.mpr ⟨List.mem_append_right _ (by revert w hw; decide +kernel), by revert w hw; decide +kernel⟩, rfl, tyX11_ok, nmX11⟩
set_option maxRecDepth 100000 in
theorem kX12 : sm_Cl vwCl gTs 12 RX12 TX12 66 tyX12 := ⟨fun w hw => List.mem_filter.mpr ⟨List.mem_append_right _ (by revert w hw; decide +kernel), by revert w hw; decide +kernel⟩, rfl, tyX12_ok, nmX12⟩
