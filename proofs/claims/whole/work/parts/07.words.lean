theorem goodIn_c {big : List Cond} (ws : List Cond) (ps qs : List Nat) (hc : ws.filter k2_isCode = ps.filterMap (fun i => big[i]?)) (hn : ws.filter (fun w => !k2_isCode w) = qs.filterMap (fun i => big[i]?)) (h : ws.all goodWord = true) : GoodIn big ws := by
  intro w hw
  have h1 := List.all_eq_true.mp h w hw
  have hm : w ∈ big := by
    by_cases hk : k2_isCode w = true
    · have h2 : w ∈ ws.filter k2_isCode := List.mem_filter.mpr ⟨hw, hk⟩
      rw [hc] at h2
      obtain ⟨i, -, hi⟩ := List.mem_filterMap.mp h2
      exact List.mem_of_getElem? hi
    · have h2 : w ∈ ws.filter (fun w => !k2_isCode w) := List.mem_filter.mpr ⟨hw, by simp [hk]⟩
      rw [hn] at h2
      obtain ⟨i, -, hi⟩ := List.mem_filterMap.mp h2
      exact List.mem_of_getElem? hi
  exact ⟨hm, good_of_word h1⟩
set_option maxRecDepth 20000 in
theorem ggX0_begin_J7_fill_53178 : GoodIn wsX0_begin wsJ7_fill_53178 := goodIn_c _ [19] [] rfl (by decide +kernel) (by decide +kernel)
set_option maxRecDepth 20000 in
theorem gX0_begin_J7_fill_53178 : GoodIn wsX0_begin (va_wsS RX0 56 yJ7_fill_53178 wsJ7_fill_53178) := goodIn_app (goodIn_of _ (by decide +kernel)) ggX0_begin_J7_fill_53178
set_option maxRecDepth 20000 in
theorem ggX0_begin_J7_fill_d0a16 : GoodIn wsX0_begin wsJ7_fill_d0a16 := goodIn_c _ [22] [] rfl (by decide +kernel) (by decide +kernel)
set_option maxRecDepth 20000 in
theorem gX0_begin_J7_fill_d0a16 : GoodIn wsX0_begin (va_wsS RX0 62 yJ7_fill_d0a16 wsJ7_fill_d0a16) := goodIn_app (goodIn_of _ (by decide +kernel)) ggX0_begin_J7_fill_d0a16
set_option maxRecDepth 20000 in
theorem ggX0_goOneCycle_X1_code : GoodIn wsX0_goOneCycle wsX1_code := goodIn_c _ [12] [13, 14, 15, 148, 149, 150, 151, 139, 140, 141, 142, 143, 144, 145, 146, 147] rfl (by decide +kernel) (by decide +kernel)
set_option maxRecDepth 20000 in
theorem gX0_goOneCycle_X1_code : GoodIn wsX0_goOneCycle (wsV RX0 86 RX1 yX1_code wsX1_code) := goodIn_app (goodIn_of _ (by decide +kernel)) ggX0_goOneCycle_X1_code
set_option maxRecDepth 20000 in
theorem ggX0_goOneCycle_X0_tryToIssue : GoodIn wsX0_goOneCycle wsX0_tryToIssue := goodIn_c _ [20, 12, 29, 34, 36, 40, 45, 50, 52, 57, 60, 64, 72, 76, 80, 84, 95, 103, 111, 115, 120] [4, 21, 1, 22, 2, 23, 24, 25, 8, 9, 10, 11, 13, 14, 15, 26, 27, 28, 19, 30, 31, 32, 33, 35, 37, 38, 39, 41, 42, 43, 44, 46, 47, 48, 49, 51, 53, 54, 55, 56, 58, 59, 61, 62, 63, 65, 66, 67, 68, 69, 70, 71, 73, 74, 75, 77, 78, 79, 81, 82, 83, 5, 85, 86, 87, 88, 89, 90, 91, 92, 93, 94, 96, 97, 98, 99, 100, 101, 102, 104, 105, 106, 107, 108, 109, 110, 112, 113, 114, 116, 117, 118, 119, 121, 122, 123, 124, 125, 126, 127, 128, 129, 130, 131, 132, 133, 134, 135, 136, 137, 138, 139, 140, 141, 142, 143, 144, 145, 146, 147, 148, 149, 150, 151] rfl (by decide +kernel) (by decide +kernel)
set_option maxRecDepth 20000 in
theorem gX0_goOneCycle_X0_tryToIssue : GoodIn wsX0_goOneCycle (wsV RX0 92 RX0 yX0_tryToIssue wsX0_tryToIssue) := goodIn_app (goodIn_of _ (by decide +kernel)) ggX0_goOneCycle_X0_tryToIssue
set_option maxRecDepth 20000 in
theorem ggX0_tryToIssue_X1_code : GoodIn wsX0_tryToIssue wsX1_code := goodIn_c _ [13] [14, 15, 16, 141, 142, 143, 144, 132, 133, 134, 135, 136, 137, 138, 139, 140] rfl (by decide +kernel) (by decide +kernel)
set_option maxRecDepth 20000 in
theorem gX0_tryToIssue_X1_code : GoodIn wsX0_tryToIssue (wsV RX0 86 RX1 yX1_code wsX1_code) := goodIn_app (goodIn_of _ (by decide +kernel)) ggX0_tryToIssue_X1_code
set_option maxRecDepth 20000 in
theorem ggX0_tryToIssue_X0_lowestFreeUnit : GoodIn wsX0_tryToIssue wsX0_lowestFreeUnit := goodIn_c _ [21, 26] [5, 22, 23, 3, 24, 25, 114, 115, 116, 117, 118, 119, 120, 121, 122, 123, 124, 125, 126, 127, 128, 129, 130, 131, 132, 133, 134, 135, 136, 137, 138, 139, 140] rfl (by decide +kernel) (by decide +kernel)
set_option maxRecDepth 20000 in
theorem gX0_tryToIssue_X0_lowestFreeUnit : GoodIn wsX0_tryToIssue (wsV RX0 98 RX0 yX0_lowestFreeUnit wsX0_lowestFreeUnit) := goodIn_app (goodIn_of _ (by decide +kernel)) ggX0_tryToIssue_X0_lowestFreeUnit
set_option maxRecDepth 20000 in
theorem ggX0_tryToIssue_X3_writesD : GoodIn wsX0_tryToIssue wsX3_writesD := goodIn_c _ [28] [] rfl (by decide +kernel) (by decide +kernel)
set_option maxRecDepth 20000 in
theorem gX0_tryToIssue_X3_writesD_n102 : GoodIn wsX0_tryToIssue (wsX3_writesD) := ggX0_tryToIssue_X3_writesD
set_option maxRecDepth 20000 in
theorem ggX0_tryToIssue_X0_settleCycles : GoodIn wsX0_tryToIssue wsX0_settleCycles := goodIn_c _ [32, 37, 42, 44, 49, 52, 28] [1, 7, 3, 4, 5, 33, 34, 35, 36, 6, 38, 39, 40, 8, 41, 25, 43, 45, 46, 47, 48, 50, 51, 27, 114, 115, 116, 117, 118, 119, 120, 121, 122, 123, 124, 125, 126, 127, 128, 129, 130, 131, 141, 142, 143, 144, 132, 133, 134, 135, 136, 137, 138, 139, 140] rfl (by decide +kernel) (by decide +kernel)
set_option maxRecDepth 20000 in
theorem gX0_tryToIssue_X0_settleCycles : GoodIn wsX0_tryToIssue (wsV RX0 112 RX0 yX0_settleCycles wsX0_settleCycles) := goodIn_app (goodIn_of _ (by decide +kernel)) ggX0_tryToIssue_X0_settleCycles
set_option maxRecDepth 20000 in
theorem ggX0_tryToIssue_X3_unitRow : GoodIn wsX0_tryToIssue wsX3_unitRow := goodIn_c _ [26] [] rfl (by decide +kernel) (by decide +kernel)
set_option maxRecDepth 20000 in
theorem gX0_tryToIssue_X3_unitRow_n116 : GoodIn wsX0_tryToIssue (wsX3_unitRow) := ggX0_tryToIssue_X3_unitRow
set_option maxRecDepth 20000 in
theorem ggX0_tryToIssue_X0_keepRow : GoodIn wsX0_tryToIssue wsX0_keepRow := goodIn_c _ [56, 64] [40, 23, 57, 58, 59, 60, 61, 8, 62, 63, 20, 114, 115, 116, 117, 118, 119, 120, 121, 122, 123, 124, 125, 126, 127, 128, 129, 130, 131] rfl (by decide +kernel) (by decide +kernel)
set_option maxRecDepth 20000 in
theorem gX0_tryToIssue_X0_keepRow : GoodIn wsX0_tryToIssue (wsV RX0 120 RX0 yX0_keepRow wsX0_keepRow) := goodIn_app (goodIn_of _ (by decide +kernel)) ggX0_tryToIssue_X0_keepRow
set_option maxRecDepth 20000 in
theorem ggX0_tryToIssue_X0_noteReading : GoodIn wsX0_tryToIssue wsX0_noteReading := goodIn_c _ [68, 42, 72, 37, 44, 49, 52] [1, 7, 5, 33, 6, 41, 25, 69, 70, 71, 20, 39, 40, 34, 35, 36, 43, 45, 46, 47, 48, 50, 51, 114, 115, 116, 117, 118, 119, 120, 121, 122, 123, 124, 125, 126, 127, 128, 129, 130, 131, 141, 142, 143, 144, 132, 133, 134, 135, 136, 137, 138, 139, 140] rfl (by decide +kernel) (by decide +kernel)
set_option maxRecDepth 20000 in
theorem gX0_tryToIssue_X0_noteReading : GoodIn wsX0_tryToIssue (wsV RX0 124 RX0 yX0_noteReading wsX0_noteReading) := goodIn_app (goodIn_of _ (by decide +kernel)) ggX0_tryToIssue_X0_noteReading
set_option maxRecDepth 20000 in
theorem ggX0_tryToIssue_X0_noteWriting : GoodIn wsX0_tryToIssue wsX0_noteWriting := goodIn_c _ [76, 37, 88] [40, 77, 34, 35, 36, 2, 1, 78, 79, 80, 81, 5, 6, 7, 82, 8, 4, 83, 84, 85, 86, 87, 12, 89, 14, 90, 16, 91, 92, 114, 115, 116, 117, 118, 119, 120, 121, 122, 123, 124, 125, 126, 127, 128, 129, 130, 131, 141, 142, 143, 144, 132, 133, 134, 135, 136, 137, 138, 139, 140] rfl (by decide +kernel) (by decide +kernel)
set_option maxRecDepth 20000 in
theorem gX0_tryToIssue_X0_noteWriting : GoodIn wsX0_tryToIssue (wsV RX0 127 RX0 yX0_noteWriting wsX0_noteWriting) := goodIn_app (goodIn_of _ (by decide +kernel)) ggX0_tryToIssue_X0_noteWriting
set_option maxRecDepth 20000 in
theorem ggX0_tryToIssue_X1_step : GoodIn wsX0_tryToIssue wsX1_step := goodIn_c _ [96, 13, 88, 28, 104, 49, 108, 113] [14, 97, 16, 98, 89, 99, 10, 11, 12, 15, 100, 86, 87, 90, 91, 92, 27, 25, 101, 102, 103, 105, 46, 47, 48, 50, 106, 107, 109, 110, 111, 112, 141, 142, 143, 144, 132, 133, 134, 135, 136, 137, 138, 139, 140] rfl (by decide +kernel) (by decide +kernel)
set_option maxRecDepth 20000 in
theorem gX0_tryToIssue_X1_step : GoodIn wsX0_tryToIssue (wsV RX0 130 RX1 yX1_step wsX1_step) := goodIn_app (goodIn_of _ (by decide +kernel)) ggX0_tryToIssue_X1_step
set_option maxRecDepth 20000 in
theorem ggX0_lowestFreeUnit_X3_unitRow : GoodIn wsX0_lowestFreeUnit wsX3_unitRow := goodIn_c _ [7] [] rfl (by decide +kernel) (by decide +kernel)
set_option maxRecDepth 20000 in
theorem gX0_lowestFreeUnit_X3_unitRow_n116 : GoodIn wsX0_lowestFreeUnit (wsX3_unitRow) := ggX0_lowestFreeUnit_X3_unitRow
set_option maxRecDepth 20000 in
theorem ggX0_settleCycles_X3_readsA : GoodIn wsX0_settleCycles wsX3_readsA := goodIn_c _ [18] [] rfl (by decide +kernel) (by decide +kernel)
set_option maxRecDepth 20000 in
theorem gX0_settleCycles_X3_readsA_n136 : GoodIn wsX0_settleCycles (wsX3_readsA) := ggX0_settleCycles_X3_readsA
set_option maxRecDepth 20000 in
theorem ggX0_settleCycles_X3_readsB : GoodIn wsX0_settleCycles wsX3_readsB := goodIn_c _ [20] [] rfl (by decide +kernel) (by decide +kernel)
set_option maxRecDepth 20000 in
theorem gX0_settleCycles_X3_readsB_n147 : GoodIn wsX0_settleCycles (wsX3_readsB) := ggX0_settleCycles_X3_readsB
set_option maxRecDepth 20000 in
theorem ggX0_settleCycles_X2_registerB : GoodIn wsX0_settleCycles wsX2_registerB := goodIn_c _ [25] [26, 53, 54, 55, 56, 57, 58, 59, 60, 61] rfl (by decide +kernel) (by decide +kernel)
set_option maxRecDepth 20000 in
theorem gX0_settleCycles_X2_registerB : GoodIn wsX0_settleCycles (wsV RX0 150 RX2 yX2_registerB wsX2_registerB) := goodIn_app (goodIn_of _ (by decide +kernel)) ggX0_settleCycles_X2_registerB
set_option maxRecDepth 20000 in
theorem ggX0_settleCycles_X3_readsD : GoodIn wsX0_settleCycles wsX3_readsD := goodIn_c _ [28] [] rfl (by decide +kernel) (by decide +kernel)
set_option maxRecDepth 20000 in
theorem gX0_settleCycles_X3_readsD_n153 : GoodIn wsX0_settleCycles (wsX3_readsD) := ggX0_settleCycles_X3_readsD
set_option maxRecDepth 20000 in
theorem ggX0_settleCycles_X3_writesD : GoodIn wsX0_settleCycles wsX3_writesD := goodIn_c _ [30] [] rfl (by decide +kernel) (by decide +kernel)
set_option maxRecDepth 20000 in
theorem gX0_settleCycles_X3_writesD_n102 : GoodIn wsX0_settleCycles (wsX3_writesD) := ggX0_settleCycles_X3_writesD
set_option maxRecDepth 20000 in
theorem ggX0_keepRow_X0_issuedStart : GoodIn wsX0_keepRow wsX0_issuedStart := goodIn_c _ [12] [] rfl (by decide +kernel) (by decide +kernel)
set_option maxRecDepth 20000 in
theorem gX0_keepRow_X0_issuedStart : GoodIn wsX0_keepRow (va_wsS RX0 165 yX0_issuedStart wsX0_issuedStart) := goodIn_app (goodIn_of _ (by decide +kernel)) ggX0_keepRow_X0_issuedStart
set_option maxRecDepth 20000 in
theorem ggX0_noteReading_X3_readsA : GoodIn wsX0_noteReading wsX3_readsA := goodIn_c _ [8] [] rfl (by decide +kernel) (by decide +kernel)
set_option maxRecDepth 20000 in
theorem gX0_noteReading_X3_readsA_n136 : GoodIn wsX0_noteReading (wsX3_readsA) := ggX0_noteReading_X3_readsA
set_option maxRecDepth 20000 in
theorem ggX0_noteReading_X0_noteReader : GoodIn wsX0_noteReading wsX0_noteReader := goodIn_c _ [13, 19] [14, 15, 16, 17, 18, 30, 31, 32, 33, 34, 35, 36, 37, 38, 39, 40, 41, 42, 43, 44, 45, 46, 47] rfl (by decide +kernel) (by decide +kernel)
set_option maxRecDepth 20000 in
theorem gX0_noteReading_X0_noteReader : GoodIn wsX0_noteReading (wsV RX0 168 RX0 yX0_noteReader wsX0_noteReader) := goodIn_app (goodIn_of _ (by decide +kernel)) ggX0_noteReading_X0_noteReader
set_option maxRecDepth 20000 in
theorem ggX0_noteReading_X3_readsB : GoodIn wsX0_noteReading wsX3_readsB := goodIn_c _ [21] [] rfl (by decide +kernel) (by decide +kernel)
set_option maxRecDepth 20000 in
theorem gX0_noteReading_X3_readsB_n147 : GoodIn wsX0_noteReading (wsX3_readsB) := ggX0_noteReading_X3_readsB
set_option maxRecDepth 20000 in
theorem ggX0_noteReading_X2_registerB : GoodIn wsX0_noteReading wsX2_registerB := goodIn_c _ [26] [27, 52, 53, 54, 55, 56, 57, 58, 59, 60] rfl (by decide +kernel) (by decide +kernel)
set_option maxRecDepth 20000 in
theorem gX0_noteReading_X2_registerB : GoodIn wsX0_noteReading (wsV RX0 150 RX2 yX2_registerB wsX2_registerB) := goodIn_app (goodIn_of _ (by decide +kernel)) ggX0_noteReading_X2_registerB
set_option maxRecDepth 20000 in
theorem ggX0_noteReading_X3_readsD : GoodIn wsX0_noteReading wsX3_readsD := goodIn_c _ [29] [] rfl (by decide +kernel) (by decide +kernel)
set_option maxRecDepth 20000 in
theorem gX0_noteReading_X3_readsD_n153 : GoodIn wsX0_noteReading (wsX3_readsD) := ggX0_noteReading_X3_readsD
set_option maxRecDepth 20000 in
theorem ggX0_noteWriting_X1_cell : GoodIn wsX0_noteWriting wsX1_cell := goodIn_c _ [25] [26, 27, 28, 29, 30, 31, 50, 51, 52, 53, 54, 55, 56, 57, 58, 59, 60, 61, 62] rfl (by decide +kernel) (by decide +kernel)
set_option maxRecDepth 20000 in
theorem gX0_noteWriting_X1_cell : GoodIn wsX0_noteWriting (wsV RX0 171 RX1 yX1_cell wsX1_cell) := goodIn_app (goodIn_of _ (by decide +kernel)) ggX0_noteWriting_X1_cell
set_option maxRecDepth 20000 in
theorem ggX0_tellIssued_X0_issuedStart : GoodIn wsX0_tellIssued wsX0_issuedStart := goodIn_c _ [6] [] rfl (by decide +kernel) (by decide +kernel)
set_option maxRecDepth 20000 in
theorem gX0_tellIssued_X0_issuedStart : GoodIn wsX0_tellIssued (va_wsS RX0 165 yX0_issuedStart wsX0_issuedStart) := goodIn_app (goodIn_of _ (by decide +kernel)) ggX0_tellIssued_X0_issuedStart
set_option maxRecDepth 20000 in
theorem ggX1_step_X1_code : GoodIn wsX1_step wsX1_code := goodIn_c _ [10] [1, 11, 3, 40, 41, 42, 43, 44, 45, 46, 47, 48, 49, 50, 51, 52] rfl (by decide +kernel) (by decide +kernel)
set_option maxRecDepth 20000 in
theorem gX1_step_X1_code : GoodIn wsX1_step (wsV RX1 48 RX1 yX1_code wsX1_code) := goodIn_app (goodIn_of _ (by decide +kernel)) ggX1_step_X1_code
set_option maxRecDepth 20000 in
theorem ggX1_step_X1_cell : GoodIn wsX1_step wsX1_cell := goodIn_c _ [15] [5, 1, 16, 3, 17, 18, 40, 41, 42, 43, 44, 45, 46, 47, 48, 49, 50, 51, 52] rfl (by decide +kernel) (by decide +kernel)
set_option maxRecDepth 20000 in
theorem gX1_step_X1_cell : GoodIn wsX1_step (wsV RX1 55 RX1 yX1_cell wsX1_cell) := goodIn_app (goodIn_of _ (by decide +kernel)) ggX1_step_X1_cell
set_option maxRecDepth 20000 in
theorem ggX1_step_X3_writesD : GoodIn wsX1_step wsX3_writesD := goodIn_c _ [21] [] rfl (by decide +kernel) (by decide +kernel)
set_option maxRecDepth 20000 in
theorem gX1_step_X3_writesD_n58 : GoodIn wsX1_step (wsX3_writesD) := ggX1_step_X3_writesD
set_option maxRecDepth 20000 in
theorem ggX1_step_X1_value : GoodIn wsX1_step wsX1_value := goodIn_c _ [25, 15, 30, 34] [4, 5, 1, 16, 3, 17, 12, 13, 14, 9, 18, 26, 27, 28, 29, 31, 32, 33, 35, 40, 41, 42, 43, 44, 45, 46, 47, 48, 49, 50, 51, 52] rfl (by decide +kernel) (by decide +kernel)
set_option maxRecDepth 20000 in
theorem gX1_step_X1_value : GoodIn wsX1_step (wsV RX1 62 RX1 yX1_value wsX1_value) := goodIn_app (goodIn_of _ (by decide +kernel)) ggX1_step_X1_value
set_option maxRecDepth 20000 in
theorem ggX1_step_X1_placeAfter : GoodIn wsX1_step wsX1_placeAfter := goodIn_c _ [39] [5, 1, 16, 3, 17, 40, 41, 42, 43, 44, 45, 46, 47, 48, 49, 50, 51, 52] rfl (by decide +kernel) (by decide +kernel)
set_option maxRecDepth 20000 in
theorem gX1_step_X1_placeAfter : GoodIn wsX1_step (wsV RX1 66 RX1 yX1_placeAfter wsX1_placeAfter) := goodIn_app (goodIn_of _ (by decide +kernel)) ggX1_step_X1_placeAfter
set_option maxRecDepth 20000 in
theorem ggX1_value_X1_cell : GoodIn wsX1_value wsX1_cell := goodIn_c _ [11] [2, 3, 4, 5, 6, 12, 23, 24, 25, 26, 27, 28, 29, 30, 31, 32, 33, 34, 35] rfl (by decide +kernel) (by decide +kernel)
set_option maxRecDepth 20000 in
theorem gX1_value_X1_cell : GoodIn wsX1_value (wsV RX1 55 RX1 yX1_cell wsX1_cell) := goodIn_app (goodIn_of _ (by decide +kernel)) ggX1_value_X1_cell
set_option maxRecDepth 20000 in
theorem ggX1_value_X2_registerB : GoodIn wsX1_value wsX2_registerB := goodIn_c _ [17] [18, 27, 28, 29, 30, 31, 32, 33, 34, 35] rfl (by decide +kernel) (by decide +kernel)
set_option maxRecDepth 20000 in
theorem gX1_value_X2_registerB : GoodIn wsX1_value (wsV RX1 70 RX2 yX2_registerB wsX2_registerB) := goodIn_app (goodIn_of _ (by decide +kernel)) ggX1_value_X2_registerB
set_option maxRecDepth 20000 in
theorem ggX1_value_X1_worked : GoodIn wsX1_value wsX1_worked := goodIn_c _ [21] [22] rfl (by decide +kernel) (by decide +kernel)
set_option maxRecDepth 20000 in
theorem gX1_value_X1_worked : GoodIn wsX1_value (va_wsS RX1 73 yX1_worked wsX1_worked) := goodIn_app (goodIn_of _ (by decide +kernel)) ggX1_value_X1_worked
set_option maxRecDepth 20000 in
theorem ggX2_init_X2_begin : GoodIn wsX2_init wsX2_begin := goodIn_c _ [18, 27, 30] [5, 6, 7, 8, 9, 10, 19, 20, 21, 22, 12, 13, 23, 24, 25, 26, 28, 29, 31, 32, 33, 34, 35, 36, 37, 38, 39] rfl (by decide +kernel) (by decide +kernel)
set_option maxRecDepth 20000 in
theorem gX2_init_X2_begin : GoodIn wsX2_init (wsV RX2 37 RX2 yX2_begin wsX2_begin) := goodIn_app (goodIn_of _ (by decide +kernel)) ggX2_init_X2_begin
set_option maxRecDepth 20000 in
theorem ggX2_begin_J7_fill_53178 : GoodIn wsX2_begin wsJ7_fill_53178 := goodIn_c _ [17] [] rfl (by decide +kernel) (by decide +kernel)
set_option maxRecDepth 20000 in
theorem gX2_begin_J7_fill_53178 : GoodIn wsX2_begin (va_wsS RX2 40 yJ7_fill_53178 wsJ7_fill_53178) := goodIn_app (goodIn_of _ (by decide +kernel)) ggX2_begin_J7_fill_53178
set_option maxRecDepth 20000 in
theorem ggX2_begin_J7_fill_d0a16 : GoodIn wsX2_begin wsJ7_fill_d0a16 := goodIn_c _ [20] [] rfl (by decide +kernel) (by decide +kernel)
set_option maxRecDepth 20000 in
theorem gX2_begin_J7_fill_d0a16 : GoodIn wsX2_begin (va_wsS RX2 55 yJ7_fill_d0a16 wsJ7_fill_d0a16) := goodIn_app (goodIn_of _ (by decide +kernel)) ggX2_begin_J7_fill_d0a16
set_option maxRecDepth 20000 in
theorem ggX3_init_X2_init : GoodIn wsX3_init wsX2_init := goodIn_c _ [18, 3, 33, 42, 45] [19, 2, 20, 21, 22, 23, 24, 25, 26, 27, 28, 29, 30, 31, 32, 6, 34, 35, 36, 37, 38, 39, 40, 41, 43, 44, 67, 68, 69, 70, 71, 72, 73, 74, 75] rfl (by decide +kernel) (by decide +kernel)
set_option maxRecDepth 20000 in
theorem gX3_init_X2_init : GoodIn wsX3_init (wsX2_init) := ggX3_init_X2_init
set_option maxRecDepth 20000 in
theorem ggX3_init_X1_init : GoodIn wsX3_init wsX1_init := goodIn_c _ [48, 3] [49, 2, 27, 50, 51, 52, 79, 80, 81, 82] rfl (by decide +kernel) (by decide +kernel)
set_option maxRecDepth 20000 in
theorem gX3_init_X1_init : GoodIn wsX3_init (wsX1_init) := ggX3_init_X1_init
set_option maxRecDepth 20000 in
theorem ggX3_init_X0_init : GoodIn wsX3_init wsX0_init := goodIn_c _ [55, 3] [56, 2, 20, 57, 58, 59, 27, 60, 61, 62, 63, 64, 65, 66, 83, 84, 85, 86, 87, 88, 89, 90, 91, 92, 93, 94, 95, 96, 97, 98, 99, 100] rfl (by decide +kernel) (by decide +kernel)
set_option maxRecDepth 20000 in
theorem gX3_init_X0_init : GoodIn wsX3_init (wsX0_init) := ggX3_init_X0_init
set_option maxRecDepth 20000 in
theorem ggX3_put_X3_began : GoodIn wsX3_put wsX3_began := goodIn_c _ [11] [12, 13, 17, 18, 19, 29, 30, 31, 32, 33, 34, 35, 36, 37, 38, 39, 40, 41, 42, 43, 44, 45, 46] rfl (by decide +kernel) (by decide +kernel)
set_option maxRecDepth 20000 in
theorem gX3_put_X3_began : GoodIn wsX3_put (wsV RX3 34 RX3 yX3_began wsX3_began) := goodIn_app (goodIn_of _ (by decide +kernel)) ggX3_put_X3_began
set_option maxRecDepth 20000 in
theorem ggX3_put_X3_within : GoodIn wsX3_put wsX3_within := goodIn_c _ [16] [] rfl (by decide +kernel) (by decide +kernel)
set_option maxRecDepth 20000 in
theorem gX3_put_X3_within : GoodIn wsX3_put (va_wsS RX3 38 yX3_within wsX3_within) := goodIn_app (goodIn_of _ (by decide +kernel)) ggX3_put_X3_within
set_option maxRecDepth 20000 in
theorem ggX3_units_X3_began : GoodIn wsX3_units wsX3_began := goodIn_c _ [7] [8, 9, 13, 14, 15, 25, 26, 27, 28, 29, 30, 31, 32, 33, 34, 35, 36, 37, 38, 39, 40, 41, 42] rfl (by decide +kernel) (by decide +kernel)
set_option maxRecDepth 20000 in
theorem gX3_units_X3_began : GoodIn wsX3_units (wsV RX3 34 RX3 yX3_began wsX3_began) := goodIn_app (goodIn_of _ (by decide +kernel)) ggX3_units_X3_began
set_option maxRecDepth 20000 in
theorem ggX3_units_X3_within : GoodIn wsX3_units wsX3_within := goodIn_c _ [12] [] rfl (by decide +kernel) (by decide +kernel)
set_option maxRecDepth 20000 in
theorem gX3_units_X3_within : GoodIn wsX3_units (va_wsS RX3 38 yX3_within wsX3_within) := goodIn_app (goodIn_of _ (by decide +kernel)) ggX3_units_X3_within
set_option maxRecDepth 20000 in
theorem ggX3_latency_X3_began : GoodIn wsX3_latency wsX3_began := goodIn_c _ [7] [8, 9, 13, 14, 15, 25, 26, 27, 28, 29, 30, 31, 32, 33, 34, 35, 36, 37, 38, 39, 40, 41, 42] rfl (by decide +kernel) (by decide +kernel)
set_option maxRecDepth 20000 in
theorem gX3_latency_X3_began : GoodIn wsX3_latency (wsV RX3 34 RX3 yX3_began wsX3_began) := goodIn_app (goodIn_of _ (by decide +kernel)) ggX3_latency_X3_began
set_option maxRecDepth 20000 in
theorem ggX3_latency_X3_within : GoodIn wsX3_latency wsX3_within := goodIn_c _ [12] [] rfl (by decide +kernel) (by decide +kernel)
set_option maxRecDepth 20000 in
theorem gX3_latency_X3_within : GoodIn wsX3_latency (va_wsS RX3 38 yX3_within wsX3_within) := goodIn_app (goodIn_of _ (by decide +kernel)) ggX3_latency_X3_within
set_option maxRecDepth 20000 in
theorem ggX3_width_X3_began : GoodIn wsX3_width wsX3_began := goodIn_c _ [7] [8, 9, 10, 11, 12, 22, 23, 24, 25, 26, 27, 28, 29, 30, 31, 32, 33, 34, 35, 36, 37, 38, 39] rfl (by decide +kernel) (by decide +kernel)
set_option maxRecDepth 20000 in
theorem gX3_width_X3_began : GoodIn wsX3_width (wsV RX3 34 RX3 yX3_began wsX3_began) := goodIn_app (goodIn_of _ (by decide +kernel)) ggX3_width_X3_began
set_option maxRecDepth 20000 in
theorem ggX3_set_X3_began : GoodIn wsX3_set wsX3_began := goodIn_c _ [11] [12, 13, 20, 21, 22, 36, 37, 38, 39, 40, 41, 42, 43, 44, 45, 46, 47, 48, 49, 50, 51, 52, 53] rfl (by decide +kernel) (by decide +kernel)
set_option maxRecDepth 20000 in
theorem gX3_set_X3_began : GoodIn wsX3_set (wsV RX3 34 RX3 yX3_began wsX3_began) := goodIn_app (goodIn_of _ (by decide +kernel)) ggX3_set_X3_began
set_option maxRecDepth 20000 in
theorem ggX3_set_X3_isThere : GoodIn wsX3_set wsX3_isThere := goodIn_c _ [16, 19] [17, 18, 10] rfl (by decide +kernel) (by decide +kernel)
set_option maxRecDepth 20000 in
theorem gX3_set_X3_isThere : GoodIn wsX3_set (va_wsS RX3 68 yX3_isThere wsX3_isThere) := goodIn_app (goodIn_of _ (by decide +kernel)) ggX3_set_X3_isThere
set_option maxRecDepth 20000 in
theorem ggX3_run_X0_goOneCycle : GoodIn wsX3_run wsX0_goOneCycle := goodIn_c _ [7, 19, 26, 35, 40, 42, 46, 51, 56, 58, 63, 66, 70, 78, 82, 86, 90, 101, 109, 117, 121, 126] [8, 9, 10, 11, 12, 13, 14, 15, 16, 17, 18, 20, 21, 22, 23, 24, 25, 6, 27, 28, 29, 30, 31, 32, 33, 34, 36, 37, 38, 39, 41, 43, 44, 45, 47, 48, 49, 50, 52, 53, 54, 55, 57, 59, 60, 61, 62, 64, 65, 67, 68, 69, 71, 72, 73, 74, 75, 76, 77, 79, 80, 81, 83, 84, 85, 87, 88, 89, 91, 92, 93, 94, 95, 96, 97, 98, 99, 100, 102, 103, 104, 105, 106, 107, 108, 110, 111, 112, 113, 114, 115, 116, 118, 119, 120, 122, 123, 124, 125, 130, 131, 132, 133, 134, 135, 136, 137, 138, 139, 140, 141, 142, 143, 144, 145, 146, 147, 148, 149, 150, 151, 152, 153, 154, 155, 156, 157, 158, 159, 160] rfl (by decide +kernel) (by decide +kernel)
set_option maxRecDepth 20000 in
theorem gX3_run_X0_goOneCycle : GoodIn wsX3_run (wsV RX3 84 RX0 yX0_goOneCycle wsX0_goOneCycle) := goodIn_app (goodIn_of _ (by decide +kernel)) ggX3_run_X0_goOneCycle
set_option maxRecDepth 20000 in
theorem ggX3_again_X1_begin : GoodIn wsX3_again wsX1_begin := goodIn_c _ [7] [8, 9, 10, 11, 12, 13, 14, 15, 16, 17, 48, 49, 50, 51, 52, 53, 54, 55, 56, 57, 58, 59, 60] rfl (by decide +kernel) (by decide +kernel)
set_option maxRecDepth 20000 in
theorem gX3_again_X1_begin : GoodIn wsX3_again (wsV RX3 87 RX1 yX1_begin wsX1_begin) := goodIn_app (goodIn_of _ (by decide +kernel)) ggX3_again_X1_begin
set_option maxRecDepth 20000 in
theorem ggX3_again_X0_begin : GoodIn wsX3_again wsX0_begin := goodIn_c _ [22, 41, 44] [23, 24, 25, 26, 27, 28, 29, 30, 31, 32, 33, 34, 35, 36, 37, 38, 39, 40, 42, 43, 61, 62, 63, 64, 65, 66, 67, 68, 69, 70, 71, 72, 73, 74, 75, 76, 77, 78] rfl (by decide +kernel) (by decide +kernel)
set_option maxRecDepth 20000 in
theorem gX3_again_X0_begin : GoodIn wsX3_again (wsV RX3 90 RX0 yX0_begin wsX0_begin) := goodIn_app (goodIn_of _ (by decide +kernel)) ggX3_again_X0_begin
set_option maxRecDepth 20000 in
theorem ggX3_clear_X2_begin : GoodIn wsX3_clear wsX2_begin := goodIn_c _ [8, 25, 28] [9, 10, 11, 12, 13, 14, 15, 16, 17, 18, 19, 20, 21, 22, 23, 24, 26, 27, 66, 67, 68, 69, 70, 71, 72, 73, 74] rfl (by decide +kernel) (by decide +kernel)
set_option maxRecDepth 20000 in
theorem gX3_clear_X2_begin : GoodIn wsX3_clear (wsV RX3 91 RX2 yX2_begin wsX2_begin) := goodIn_app (goodIn_of _ (by decide +kernel)) ggX3_clear_X2_begin
set_option maxRecDepth 20000 in
theorem ggX3_clear_X1_begin : GoodIn wsX3_clear wsX1_begin := goodIn_c _ [33] [34, 35, 36, 37, 16, 17, 18, 38, 39, 40, 75, 76, 77, 78, 66, 67, 68, 69, 70, 71, 72, 73, 74] rfl (by decide +kernel) (by decide +kernel)
set_option maxRecDepth 20000 in
theorem gX3_clear_X1_begin : GoodIn wsX3_clear (wsV RX3 87 RX1 yX1_begin wsX1_begin) := goodIn_app (goodIn_of _ (by decide +kernel)) ggX3_clear_X1_begin
set_option maxRecDepth 20000 in
theorem ggX3_clear_X0_begin : GoodIn wsX3_clear wsX0_begin := goodIn_c _ [45, 25, 28] [46, 47, 48, 49, 50, 51, 52, 53, 54, 55, 56, 57, 58, 59, 60, 61, 23, 24, 62, 27, 79, 80, 81, 82, 83, 84, 85, 86, 87, 88, 89, 90, 91, 92, 93, 94, 95, 96] rfl (by decide +kernel) (by decide +kernel)
set_option maxRecDepth 20000 in
theorem gX3_clear_X0_begin : GoodIn wsX3_clear (wsV RX3 90 RX0 yX0_begin wsX0_begin) := goodIn_app (goodIn_of _ (by decide +kernel)) ggX3_clear_X0_begin
set_option maxRecDepth 20000 in
theorem ggX3_count_X0_notWritten : GoodIn wsX3_count wsX0_notWritten := goodIn_c _ [13] [14, 15, 19, 20, 21, 22, 23, 24, 25, 26, 27, 28, 29, 30, 31, 32, 33, 34, 35, 36] rfl (by decide +kernel) (by decide +kernel)
set_option maxRecDepth 20000 in
theorem gX3_count_X0_notWritten : GoodIn wsX3_count (wsV RX3 98 RX0 yX0_notWritten wsX0_notWritten) := goodIn_app (goodIn_of _ (by decide +kernel)) ggX3_count_X0_notWritten
set_option maxRecDepth 20000 in
theorem ggX3_register_X3_within : GoodIn wsX3_register wsX3_within := goodIn_c _ [7] [] rfl (by decide +kernel) (by decide +kernel)
set_option maxRecDepth 20000 in
theorem gX3_register_X3_within : GoodIn wsX3_register (va_wsS RX3 38 yX3_within wsX3_within) := goodIn_app (goodIn_of _ (by decide +kernel)) ggX3_register_X3_within
set_option maxRecDepth 20000 in
theorem ggX3_register_X0_registerNow : GoodIn wsX3_register wsX0_registerNow := goodIn_c _ [12] [13, 14, 15, 16, 17, 21, 22, 23, 24, 25, 26, 27, 28, 29, 30, 31, 32, 33, 34, 35, 36, 37, 38, 39, 40, 41, 42] rfl (by decide +kernel) (by decide +kernel)
set_option maxRecDepth 20000 in
theorem gX3_register_X0_registerNow : GoodIn wsX3_register (wsV RX3 118 RX0 yX0_registerNow wsX0_registerNow) := goodIn_app (goodIn_of _ (by decide +kernel)) ggX3_register_X0_registerNow
set_option maxRecDepth 20000 in
theorem ggX3_memory_X3_within : GoodIn wsX3_memory wsX3_within := goodIn_c _ [7] [] rfl (by decide +kernel) (by decide +kernel)
set_option maxRecDepth 20000 in
theorem gX3_memory_X3_within : GoodIn wsX3_memory (va_wsS RX3 38 yX3_within wsX3_within) := goodIn_app (goodIn_of _ (by decide +kernel)) ggX3_memory_X3_within
set_option maxRecDepth 20000 in
theorem ggX3_memory_X0_memoryNow : GoodIn wsX3_memory wsX0_memoryNow := goodIn_c _ [12] [13, 14, 15, 16, 17, 18, 22, 23, 24, 25, 26, 27, 28, 29, 30, 31, 32, 33, 34, 35, 36, 37, 38, 39, 40, 41, 42, 43] rfl (by decide +kernel) (by decide +kernel)
set_option maxRecDepth 20000 in
theorem gX3_memory_X0_memoryNow : GoodIn wsX3_memory (wsV RX3 124 RX0 yX0_memoryNow wsX0_memoryNow) := goodIn_app (goodIn_of _ (by decide +kernel)) ggX3_memory_X0_memoryNow
set_option maxRecDepth 20000 in
theorem ggX3_plain_X3_isThere : GoodIn wsX3_plain wsX3_isThere := goodIn_c _ [9, 12] [10, 11, 8] rfl (by decide +kernel) (by decide +kernel)
set_option maxRecDepth 20000 in
theorem gX3_plain_X3_isThere : GoodIn wsX3_plain (va_wsS RX3 68 yX3_isThere wsX3_isThere) := goodIn_app (goodIn_of _ (by decide +kernel)) ggX3_plain_X3_isThere
set_option maxRecDepth 20000 in
theorem ggX3_unit_X3_within : GoodIn wsX3_unit wsX3_within := goodIn_c _ [7] [] rfl (by decide +kernel) (by decide +kernel)
set_option maxRecDepth 20000 in
theorem gX3_unit_X3_within : GoodIn wsX3_unit (va_wsS RX3 38 yX3_within wsX3_within) := goodIn_app (goodIn_of _ (by decide +kernel)) ggX3_unit_X3_within
set_option maxRecDepth 20000 in
theorem ggX3_unit_X3_unitRow : GoodIn wsX3_unit wsX3_unitRow := goodIn_c _ [10] [] rfl (by decide +kernel) (by decide +kernel)
set_option maxRecDepth 20000 in
theorem gX3_unit_X3_unitRow : GoodIn wsX3_unit (va_wsS RX3 129 yX3_unitRow wsX3_unitRow) := goodIn_app (goodIn_of _ (by decide +kernel)) ggX3_unit_X3_unitRow
set_option maxRecDepth 20000 in
theorem ggX3_unit_X0_tellUnit : GoodIn wsX3_unit wsX0_tellUnit := goodIn_c _ [15] [16, 17, 30, 31, 32, 33, 34, 35, 36, 37, 38, 39, 40, 41, 42, 43, 44, 45, 46, 47] rfl (by decide +kernel) (by decide +kernel)
set_option maxRecDepth 20000 in
theorem gX3_unit_X0_tellUnit : GoodIn wsX3_unit (wsV RX3 133 RX0 yX0_tellUnit wsX0_tellUnit) := goodIn_app (goodIn_of _ (by decide +kernel)) ggX3_unit_X0_tellUnit
set_option maxRecDepth 20000 in
theorem ggX3_pending_X3_within : GoodIn wsX3_pending wsX3_within := goodIn_c _ [8] [] rfl (by decide +kernel) (by decide +kernel)
set_option maxRecDepth 20000 in
theorem gX3_pending_X3_within : GoodIn wsX3_pending (va_wsS RX3 38 yX3_within wsX3_within) := goodIn_app (goodIn_of _ (by decide +kernel)) ggX3_pending_X3_within
set_option maxRecDepth 20000 in
theorem ggX3_latest_X3_within : GoodIn wsX3_latest wsX3_within := goodIn_c _ [6] [] rfl (by decide +kernel) (by decide +kernel)
set_option maxRecDepth 20000 in
theorem gX3_latest_X3_within : GoodIn wsX3_latest (va_wsS RX3 38 yX3_within wsX3_within) := goodIn_app (goodIn_of _ (by decide +kernel)) ggX3_latest_X3_within
set_option maxRecDepth 20000 in
theorem ggX3_latest_X0_tellIssued : GoodIn wsX3_latest wsX0_tellIssued := goodIn_c _ [11, 16] [12, 13, 14, 15, 10, 20, 21, 22, 23, 24, 25, 26, 27, 28, 29, 30, 31, 32, 33, 34, 35, 36, 37] rfl (by decide +kernel) (by decide +kernel)
set_option maxRecDepth 20000 in
theorem gX3_latest_X0_tellIssued : GoodIn wsX3_latest (wsV RX3 142 RX0 yX0_tellIssued wsX0_tellIssued) := goodIn_app (goodIn_of _ (by decide +kernel)) ggX3_latest_X0_tellIssued
set_option maxRecDepth 20000 in
theorem ggX3_isThere_X3_within : GoodIn wsX3_isThere wsX3_within := goodIn_c _ [4] [] rfl (by decide +kernel) (by decide +kernel)
set_option maxRecDepth 20000 in
theorem gX3_isThere_X3_within : GoodIn wsX3_isThere (va_wsS RX3 38 yX3_within wsX3_within) := goodIn_app (goodIn_of _ (by decide +kernel)) ggX3_isThere_X3_within
set_option maxRecDepth 20000 in
theorem ggX4_init_X4_clear : GoodIn wsX4_init wsX4_clear := goodIn_c _ [28, 34] [29, 5, 6, 7, 30, 9, 10, 31, 32, 33, 27, 35, 36, 37, 38, 39, 40, 41, 42, 15, 11, 13, 16, 17, 18, 12, 14, 22, 19, 43, 44, 45, 46, 47, 48, 49, 50, 51, 52, 53, 54, 55, 56, 57, 58, 59, 60, 61, 62, 63, 64, 65, 66, 67, 68, 69] rfl (by decide +kernel) (by decide +kernel)
set_option maxRecDepth 20000 in
theorem gX4_init_X4_clear : GoodIn wsX4_init (wsV RX4 63 RX4 yX4_clear wsX4_clear) := goodIn_app (goodIn_of _ (by decide +kernel)) ggX4_init_X4_clear
set_option maxRecDepth 20000 in
theorem ggX4_clear_X4_again : GoodIn wsX4_clear wsX4_again := goodIn_c _ [12] [1, 13, 14, 15, 16, 17, 18, 19, 20, 21, 22, 6, 23, 24, 25, 26, 27, 7, 28, 29, 30, 31, 32, 33, 34, 35, 36, 37, 38, 39, 40, 41, 42, 43, 44, 45, 46, 47, 48, 49, 50, 51, 52, 53, 54, 55, 56, 57] rfl (by decide +kernel) (by decide +kernel)
set_option maxRecDepth 20000 in
theorem gX4_clear_X4_again : GoodIn wsX4_clear (wsV RX4 73 RX4 yX4_again wsX4_again) := goodIn_app (goodIn_of _ (by decide +kernel)) ggX4_clear_X4_again
set_option maxRecDepth 20000 in
theorem ggX4_sameWritten_X4_code : GoodIn wsX4_sameWritten wsX4_code := goodIn_c _ [8] [2, 3, 12, 13, 14, 15, 16, 17, 18, 19, 20, 21, 22, 23, 24, 25, 26, 27, 28, 29, 30, 31, 32, 33, 34, 35, 36, 37, 38] rfl (by decide +kernel) (by decide +kernel)
set_option maxRecDepth 20000 in
theorem gX4_sameWritten_X4_code : GoodIn wsX4_sameWritten (wsV RX4 101 RX4 yX4_code wsX4_code) := goodIn_app (goodIn_of _ (by decide +kernel)) ggX4_sameWritten_X4_code
set_option maxRecDepth 20000 in
theorem ggX4_sameWritten_X4_writes : GoodIn wsX4_sameWritten wsX4_writes := goodIn_c _ [11] [] rfl (by decide +kernel) (by decide +kernel)
set_option maxRecDepth 20000 in
theorem gX4_sameWritten_X4_writes : GoodIn wsX4_sameWritten (va_wsS RX4 105 yX4_writes wsX4_writes) := goodIn_app (goodIn_of _ (by decide +kernel)) ggX4_sameWritten_X4_writes
set_option maxRecDepth 20000 in
theorem ggX4_issues_X4_begins : GoodIn wsX4_issues wsX4_begins := goodIn_c _ [6] [7, 8, 9, 10, 37, 38, 39, 40, 41, 42, 43, 44, 45, 46, 47, 48, 49, 50, 51, 52, 53, 54, 55, 56, 57, 58, 59, 60, 61, 62, 63] rfl (by decide +kernel) (by decide +kernel)
set_option maxRecDepth 20000 in
theorem gX4_issues_X4_begins : GoodIn wsX4_issues (wsV RX4 109 RX4 yX4_begins wsX4_begins) := goodIn_app (goodIn_of _ (by decide +kernel)) ggX4_issues_X4_begins
set_option maxRecDepth 20000 in
theorem ggX4_issues_X4_greater : GoodIn wsX4_issues wsX4_greater := goodIn_c _ [13] [] rfl (by decide +kernel) (by decide +kernel)
set_option maxRecDepth 20000 in
theorem gX4_issues_X4_greater : GoodIn wsX4_issues (va_wsS RX4 112 yX4_greater wsX4_greater) := goodIn_app (goodIn_of _ (by decide +kernel)) ggX4_issues_X4_greater
set_option maxRecDepth 20000 in
theorem ggX4_issues_X4_code : GoodIn wsX4_issues wsX4_code := goodIn_c _ [17] [18, 19, 37, 38, 39, 40, 41, 42, 43, 44, 45, 46, 47, 48, 49, 50, 51, 52, 53, 54, 55, 56, 57, 58, 59, 60, 61, 62, 63] rfl (by decide +kernel) (by decide +kernel)
set_option maxRecDepth 20000 in
theorem gX4_issues_X4_code : GoodIn wsX4_issues (wsV RX4 101 RX4 yX4_code wsX4_code) := goodIn_app (goodIn_of _ (by decide +kernel)) ggX4_issues_X4_code
set_option maxRecDepth 20000 in
theorem ggX4_issues_X4_kindOf : GoodIn wsX4_issues wsX4_kindOf := goodIn_c _ [22] [] rfl (by decide +kernel) (by decide +kernel)
set_option maxRecDepth 20000 in
theorem gX4_issues_X4_kindOf : GoodIn wsX4_issues (va_wsS RX4 116 yX4_kindOf wsX4_kindOf) := goodIn_app (goodIn_of _ (by decide +kernel)) ggX4_issues_X4_kindOf
set_option maxRecDepth 20000 in
theorem ggX4_issues_X4_unitWritten : GoodIn wsX4_issues wsX4_unitWritten := goodIn_c _ [26] [27, 28, 37, 38, 39, 40, 41, 42, 43, 44, 45, 46, 47, 48, 49, 50, 51, 52, 53, 54, 55, 56, 57, 58, 59, 60, 61, 62, 63] rfl (by decide +kernel) (by decide +kernel)
set_option maxRecDepth 20000 in
theorem gX4_issues_X4_unitWritten : GoodIn wsX4_issues (wsV RX4 120 RX4 yX4_unitWritten wsX4_unitWritten) := goodIn_app (goodIn_of _ (by decide +kernel)) ggX4_issues_X4_unitWritten
set_option maxRecDepth 20000 in
theorem ggX4_issues_X4_sameWritten : GoodIn wsX4_issues wsX4_sameWritten := goodIn_c _ [32, 17, 36] [33, 18, 19, 14, 15, 16, 5, 34, 35, 37, 38, 39, 40, 41, 42, 43, 44, 45, 46, 47, 48, 49, 50, 51, 52, 53, 54, 55, 56, 57, 58, 59, 60, 61, 62, 63] rfl (by decide +kernel) (by decide +kernel)
set_option maxRecDepth 20000 in
theorem gX4_issues_X4_sameWritten : GoodIn wsX4_issues (wsV RX4 123 RX4 yX4_sameWritten wsX4_sameWritten) := goodIn_app (goodIn_of _ (by decide +kernel)) ggX4_issues_X4_sameWritten
set_option maxRecDepth 20000 in
theorem ggX4_waited_X4_begins : GoodIn wsX4_waited wsX4_begins := goodIn_c _ [6] [7, 8, 9, 10, 37, 38, 39, 40, 41, 42, 43, 44, 45, 46, 47, 48, 49, 50, 51, 52, 53, 54, 55, 56, 57, 58, 59, 60, 61, 62, 63] rfl (by decide +kernel) (by decide +kernel)
set_option maxRecDepth 20000 in
theorem gX4_waited_X4_begins : GoodIn wsX4_waited (wsV RX4 109 RX4 yX4_begins wsX4_begins) := goodIn_app (goodIn_of _ (by decide +kernel)) ggX4_waited_X4_begins
set_option maxRecDepth 20000 in
theorem ggX4_waited_X4_code : GoodIn wsX4_waited wsX4_code := goodIn_c _ [14] [15, 16, 37, 38, 39, 40, 41, 42, 43, 44, 45, 46, 47, 48, 49, 50, 51, 52, 53, 54, 55, 56, 57, 58, 59, 60, 61, 62, 63] rfl (by decide +kernel) (by decide +kernel)
set_option maxRecDepth 20000 in
theorem gX4_waited_X4_code : GoodIn wsX4_waited (wsV RX4 101 RX4 yX4_code wsX4_code) := goodIn_app (goodIn_of _ (by decide +kernel)) ggX4_waited_X4_code
set_option maxRecDepth 20000 in
theorem ggX4_waited_X4_kindOf : GoodIn wsX4_waited wsX4_kindOf := goodIn_c _ [19] [] rfl (by decide +kernel) (by decide +kernel)
set_option maxRecDepth 20000 in
theorem gX4_waited_X4_kindOf : GoodIn wsX4_waited (va_wsS RX4 116 yX4_kindOf wsX4_kindOf) := goodIn_app (goodIn_of _ (by decide +kernel)) ggX4_waited_X4_kindOf
set_option maxRecDepth 20000 in
theorem ggX4_waited_X4_unitWritten : GoodIn wsX4_waited wsX4_unitWritten := goodIn_c _ [23] [24, 25, 37, 38, 39, 40, 41, 42, 43, 44, 45, 46, 47, 48, 49, 50, 51, 52, 53, 54, 55, 56, 57, 58, 59, 60, 61, 62, 63] rfl (by decide +kernel) (by decide +kernel)
set_option maxRecDepth 20000 in
theorem gX4_waited_X4_unitWritten : GoodIn wsX4_waited (wsV RX4 120 RX4 yX4_unitWritten wsX4_unitWritten) := goodIn_app (goodIn_of _ (by decide +kernel)) ggX4_waited_X4_unitWritten
set_option maxRecDepth 20000 in
theorem ggX4_waited_X4_greater : GoodIn wsX4_waited wsX4_greater := goodIn_c _ [28] [] rfl (by decide +kernel) (by decide +kernel)
set_option maxRecDepth 20000 in
theorem gX4_waited_X4_greater : GoodIn wsX4_waited (va_wsS RX4 112 yX4_greater wsX4_greater) := goodIn_app (goodIn_of _ (by decide +kernel)) ggX4_waited_X4_greater
set_option maxRecDepth 20000 in
theorem ggX4_waited_X4_sameWritten : GoodIn wsX4_waited wsX4_sameWritten := goodIn_c _ [32, 14, 36] [33, 15, 16, 11, 12, 13, 5, 34, 35, 37, 38, 39, 40, 41, 42, 43, 44, 45, 46, 47, 48, 49, 50, 51, 52, 53, 54, 55, 56, 57, 58, 59, 60, 61, 62, 63] rfl (by decide +kernel) (by decide +kernel)
set_option maxRecDepth 20000 in
theorem gX4_waited_X4_sameWritten : GoodIn wsX4_waited (wsV RX4 123 RX4 yX4_sameWritten wsX4_sameWritten) := goodIn_app (goodIn_of _ (by decide +kernel)) ggX4_waited_X4_sameWritten
set_option maxRecDepth 20000 in
theorem ggX4_does_X4_registerB : GoodIn wsX4_does wsX4_registerB := goodIn_c _ [11] [3, 1, 12, 13, 14, 15, 16, 17, 18, 19, 20, 21, 22, 23, 24, 25, 26, 27, 28, 29, 30, 31, 32, 33, 34, 35, 36, 37, 38] rfl (by decide +kernel) (by decide +kernel)
set_option maxRecDepth 20000 in
theorem gX4_does_X4_registerB : GoodIn wsX4_does (wsV RX4 126 RX4 yX4_registerB wsX4_registerB) := goodIn_app (goodIn_of _ (by decide +kernel)) ggX4_does_X4_registerB
set_option maxRecDepth 20000 in
theorem ggX4_issue_X4_code : GoodIn wsX4_issue wsX4_code := goodIn_c _ [24] [1, 2, 73, 74, 75, 76, 77, 78, 79, 80, 81, 82, 83, 84, 85, 86, 87, 88, 89, 90, 91, 92, 93, 94, 95, 96, 97, 98, 99] rfl (by decide +kernel) (by decide +kernel)
set_option maxRecDepth 20000 in
theorem gX4_issue_X4_code : GoodIn wsX4_issue (wsV RX4 101 RX4 yX4_code wsX4_code) := goodIn_app (goodIn_of _ (by decide +kernel)) ggX4_issue_X4_code
set_option maxRecDepth 20000 in
theorem ggX4_issue_X4_kindOf : GoodIn wsX4_issue wsX4_kindOf := goodIn_c _ [27] [] rfl (by decide +kernel) (by decide +kernel)
set_option maxRecDepth 20000 in
theorem gX4_issue_X4_kindOf : GoodIn wsX4_issue (va_wsS RX4 116 yX4_kindOf wsX4_kindOf) := goodIn_app (goodIn_of _ (by decide +kernel)) ggX4_issue_X4_kindOf
set_option maxRecDepth 20000 in
theorem ggX4_issue_X4_registerB : GoodIn wsX4_issue wsX4_registerB := goodIn_c _ [31] [1, 2, 73, 74, 75, 76, 77, 78, 79, 80, 81, 82, 83, 84, 85, 86, 87, 88, 89, 90, 91, 92, 93, 94, 95, 96, 97, 98, 99] rfl (by decide +kernel) (by decide +kernel)
set_option maxRecDepth 20000 in
theorem gX4_issue_X4_registerB : GoodIn wsX4_issue (wsV RX4 126 RX4 yX4_registerB wsX4_registerB) := goodIn_app (goodIn_of _ (by decide +kernel)) ggX4_issue_X4_registerB
set_option maxRecDepth 20000 in
theorem ggX4_issue_X4_waited : GoodIn wsX4_issue wsX4_waited := goodIn_c _ [35, 39, 24, 27, 44, 48, 52, 55] [16, 36, 37, 38, 23, 11, 19, 40, 18, 20, 21, 22, 1, 2, 25, 26, 41, 42, 43, 4, 45, 46, 47, 49, 50, 51, 6, 53, 54, 73, 74, 75, 76, 77, 78, 79, 80, 81, 82, 83, 84, 85, 86, 87, 88, 89, 90, 91, 92, 93, 94, 95, 96, 97, 98, 99] rfl (by decide +kernel) (by decide +kernel)
set_option maxRecDepth 20000 in
theorem gX4_issue_X4_waited : GoodIn wsX4_issue (wsV RX4 133 RX4 yX4_waited wsX4_waited) := goodIn_app (goodIn_of _ (by decide +kernel)) ggX4_issue_X4_waited
set_option maxRecDepth 20000 in
theorem ggX4_issue_X4_commit : GoodIn wsX4_issue wsX4_commit := goodIn_c _ [59] [5, 4, 60, 13, 61, 73, 74, 75, 76, 77, 78, 79, 80, 81, 82, 83, 84, 85, 86, 87, 88, 89, 90, 91, 92, 93, 94, 95, 96, 97, 98, 99] rfl (by decide +kernel) (by decide +kernel)
set_option maxRecDepth 20000 in
theorem gX4_issue_X4_commit : GoodIn wsX4_issue (wsV RX4 136 RX4 yX4_commit wsX4_commit) := goodIn_app (goodIn_of _ (by decide +kernel)) ggX4_issue_X4_commit
set_option maxRecDepth 20000 in
theorem ggX4_issue_X4_readsA : GoodIn wsX4_issue wsX4_readsA := goodIn_c _ [64] [] rfl (by decide +kernel) (by decide +kernel)
set_option maxRecDepth 20000 in
theorem gX4_issue_X4_readsA : GoodIn wsX4_issue (va_wsS RX4 140 yX4_readsA wsX4_readsA) := goodIn_app (goodIn_of _ (by decide +kernel)) ggX4_issue_X4_readsA
set_option maxRecDepth 20000 in
theorem ggX4_issue_X4_greater : GoodIn wsX4_issue wsX4_greater := goodIn_c _ [48] [] rfl (by decide +kernel) (by decide +kernel)
set_option maxRecDepth 20000 in
theorem gX4_issue_X4_greater : GoodIn wsX4_issue (va_wsS RX4 112 yX4_greater wsX4_greater) := goodIn_app (goodIn_of _ (by decide +kernel)) ggX4_issue_X4_greater
set_option maxRecDepth 20000 in
theorem ggX4_issue_X4_readsB : GoodIn wsX4_issue wsX4_readsB := goodIn_c _ [67] [] rfl (by decide +kernel) (by decide +kernel)
set_option maxRecDepth 20000 in
theorem gX4_issue_X4_readsB : GoodIn wsX4_issue (va_wsS RX4 143 yX4_readsB wsX4_readsB) := goodIn_app (goodIn_of _ (by decide +kernel)) ggX4_issue_X4_readsB
set_option maxRecDepth 20000 in
theorem ggX4_issue_X4_writes : GoodIn wsX4_issue wsX4_writes := goodIn_c _ [55] [] rfl (by decide +kernel) (by decide +kernel)
set_option maxRecDepth 20000 in
theorem gX4_issue_X4_writes : GoodIn wsX4_issue (va_wsS RX4 105 yX4_writes wsX4_writes) := goodIn_app (goodIn_of _ (by decide +kernel)) ggX4_issue_X4_writes
set_option maxRecDepth 20000 in
theorem ggX4_issue_X4_does : GoodIn wsX4_issue wsX4_does := goodIn_c _ [71, 31] [2, 9, 1, 72, 15, 10, 28, 29, 30, 23, 73, 74, 75, 76, 77, 78, 79, 80, 81, 82, 83, 84, 85, 86, 87, 88, 89, 90, 91, 92, 93, 94, 95, 96, 97, 98, 99] rfl (by decide +kernel) (by decide +kernel)
set_option maxRecDepth 20000 in
theorem gX4_issue_X4_does : GoodIn wsX4_issue (wsV RX4 146 RX4 yX4_does wsX4_does) := goodIn_app (goodIn_of _ (by decide +kernel)) ggX4_issue_X4_does
set_option maxRecDepth 20000 in
theorem ggX4_run_X4_code : GoodIn wsX4_run wsX4_code := goodIn_c _ [12] [13, 14, 84, 85, 86, 87, 88, 89, 90, 91, 92, 93, 94, 95, 96, 97, 98, 99, 100, 101, 102, 103, 104, 105, 106, 107, 108, 109, 110] rfl (by decide +kernel) (by decide +kernel)
set_option maxRecDepth 20000 in
theorem gX4_run_X4_code : GoodIn wsX4_run (wsV RX4 101 RX4 yX4_code wsX4_code) := goodIn_app (goodIn_of _ (by decide +kernel)) ggX4_run_X4_code
set_option maxRecDepth 20000 in
theorem ggX4_run_X4_greater : GoodIn wsX4_run wsX4_greater := goodIn_c _ [17] [] rfl (by decide +kernel) (by decide +kernel)
set_option maxRecDepth 20000 in
theorem gX4_run_X4_greater : GoodIn wsX4_run (va_wsS RX4 112 yX4_greater wsX4_greater) := goodIn_app (goodIn_of _ (by decide +kernel)) ggX4_run_X4_greater
set_option maxRecDepth 20000 in
theorem ggX4_run_X4_issues : GoodIn wsX4_run wsX4_issues := goodIn_c _ [21, 26, 17, 12, 32, 36, 41, 45] [22, 23, 24, 25, 11, 27, 28, 29, 4, 15, 16, 8, 9, 10, 13, 14, 30, 31, 33, 34, 35, 7, 37, 38, 39, 40, 42, 43, 44, 84, 85, 86, 87, 88, 89, 90, 91, 92, 93, 94, 95, 96, 97, 98, 99, 100, 101, 102, 103, 104, 105, 106, 107, 108, 109, 110] rfl (by decide +kernel) (by decide +kernel)
set_option maxRecDepth 20000 in
theorem gX4_run_X4_issues : GoodIn wsX4_run (wsV RX4 150 RX4 yX4_issues wsX4_issues) := goodIn_app (goodIn_of _ (by decide +kernel)) ggX4_run_X4_issues
set_option maxRecDepth 20000 in
theorem ggX4_run_X4_issue : GoodIn wsX4_run wsX4_issue := goodIn_c _ [49, 12, 32, 62, 66, 26, 36, 17, 41, 45, 70, 75, 78, 82] [13, 14, 50, 7, 6, 42, 51, 52, 53, 54, 27, 55, 56, 57, 58, 22, 5, 4, 28, 8, 9, 10, 11, 30, 31, 59, 60, 61, 63, 64, 65, 23, 24, 25, 29, 33, 34, 35, 37, 15, 16, 38, 39, 40, 43, 44, 67, 68, 69, 71, 72, 73, 74, 76, 77, 79, 80, 81, 83, 84, 85, 86, 87, 88, 89, 90, 91, 92, 93, 94, 95, 96, 97, 98, 99, 100, 101, 102, 103, 104, 105, 106, 107, 108, 109, 110] rfl (by decide +kernel) (by decide +kernel)
set_option maxRecDepth 20000 in
theorem gX4_run_X4_issue : GoodIn wsX4_run (wsV RX4 153 RX4 yX4_issue wsX4_issue) := goodIn_app (goodIn_of _ (by decide +kernel)) ggX4_run_X4_issue
set_option maxRecDepth 20000 in
theorem ggX4_run_X4_commit : GoodIn wsX4_run wsX4_commit := goodIn_c _ [70] [6, 7, 71, 56, 72, 84, 85, 86, 87, 88, 89, 90, 91, 92, 93, 94, 95, 96, 97, 98, 99, 100, 101, 102, 103, 104, 105, 106, 107, 108, 109, 110] rfl (by decide +kernel) (by decide +kernel)
set_option maxRecDepth 20000 in
theorem gX4_run_X4_commit : GoodIn wsX4_run (wsV RX4 136 RX4 yX4_commit wsX4_commit) := goodIn_app (goodIn_of _ (by decide +kernel)) ggX4_run_X4_commit
set_option maxRecDepth 20000 in
theorem ggX4_count_X4_open : GoodIn wsX4_count wsX4_open := goodIn_c _ [12] [13, 50, 51, 52, 53, 54, 55, 56, 57, 58, 59, 60, 61, 62, 63, 64, 65, 66, 67, 68, 69, 70, 71, 72, 73, 74, 75, 76] rfl (by decide +kernel) (by decide +kernel)
set_option maxRecDepth 20000 in
theorem gX4_count_X4_open : GoodIn wsX4_count (wsV RX4 156 RX4 yX4_open wsX4_open) := goodIn_app (goodIn_of _ (by decide +kernel)) ggX4_count_X4_open
set_option maxRecDepth 20000 in
theorem ggX4_count_X4_code : GoodIn wsX4_count wsX4_code := goodIn_c _ [17] [18, 7, 50, 51, 52, 53, 54, 55, 56, 57, 58, 59, 60, 61, 62, 63, 64, 65, 66, 67, 68, 69, 70, 71, 72, 73, 74, 75, 76] rfl (by decide +kernel) (by decide +kernel)
set_option maxRecDepth 20000 in
theorem gX4_count_X4_code : GoodIn wsX4_count (wsV RX4 101 RX4 yX4_code wsX4_code) := goodIn_app (goodIn_of _ (by decide +kernel)) ggX4_count_X4_code
set_option maxRecDepth 20000 in
theorem ggX4_count_X4_waited : GoodIn wsX4_count wsX4_waited := goodIn_c _ [22, 26, 17, 32, 36, 41, 45, 49] [6, 23, 24, 25, 11, 4, 27, 28, 29, 14, 15, 16, 18, 7, 30, 31, 33, 34, 35, 37, 38, 39, 40, 42, 43, 44, 46, 47, 48, 50, 51, 52, 53, 54, 55, 56, 57, 58, 59, 60, 61, 62, 63, 64, 65, 66, 67, 68, 69, 70, 71, 72, 73, 74, 75, 76] rfl (by decide +kernel) (by decide +kernel)
set_option maxRecDepth 20000 in
theorem gX4_count_X4_waited : GoodIn wsX4_count (wsV RX4 133 RX4 yX4_waited wsX4_waited) := goodIn_app (goodIn_of _ (by decide +kernel)) ggX4_count_X4_waited
