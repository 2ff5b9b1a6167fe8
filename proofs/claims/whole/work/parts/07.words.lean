set_option maxRecDepth 20000 in
theorem ggX0_begin_J7_fill_53178 : GoodIn wsX0_begin wsJ7_fill_53178 := goodIn_r _ [19] (by decide +kernel) (by decide +kernel)
set_option maxRecDepth 20000 in
theorem gX0_begin_J7_fill_53178 : GoodIn wsX0_begin (va_wsS RX0 56 yJ7_fill_53178 wsJ7_fill_53178) := goodIn_app (goodIn_of _ (by decide +kernel)) ggX0_begin_J7_fill_53178
set_option maxRecDepth 20000 in
theorem ggX0_begin_J7_fill_d0a16 : GoodIn wsX0_begin wsJ7_fill_d0a16 := goodIn_r _ [22] (by decide +kernel) (by decide +kernel)
set_option maxRecDepth 20000 in
theorem gX0_begin_J7_fill_d0a16 : GoodIn wsX0_begin (va_wsS RX0 62 yJ7_fill_d0a16 wsJ7_fill_d0a16) := goodIn_app (goodIn_of _ (by decide +kernel)) ggX0_begin_J7_fill_d0a16
set_option maxRecDepth 20000 in
theorem ggX0_goOneCycle_X1_code : GoodIn wsX0_goOneCycle wsX1_code := goodIn_r _ [12, 13, 14, 15, 148, 149, 150, 151, 139, 140, 141, 142, 143, 144, 145, 146, 147] (by decide +kernel) (by decide +kernel)
set_option maxRecDepth 20000 in
theorem gX0_goOneCycle_X1_code : GoodIn wsX0_goOneCycle (wsV RX0 86 RX1 yX1_code wsX1_code) := goodIn_app (goodIn_of _ (by decide +kernel)) ggX0_goOneCycle_X1_code
set_option maxRecDepth 20000 in
theorem ggX0_goOneCycle_X0_tryToIssue : GoodIn wsX0_goOneCycle wsX0_tryToIssue := goodIn_r _ [20, 4, 21, 1, 22, 2, 23, 24, 25, 8, 9, 10, 11, 12, 13, 14, 15, 26, 27, 28, 19, 29, 30, 31, 32, 33, 34, 35, 36, 37, 38, 39, 40, 41, 42, 43, 44, 45, 46, 47, 48, 49, 50, 51, 52, 53, 54, 55, 56, 57, 58, 59, 60, 61, 62, 63, 64, 65, 66, 67, 68, 69, 70, 71, 72, 73, 74, 75, 76, 77, 78, 79, 80, 81, 82, 83, 84, 5, 85, 86, 87, 88, 89, 90, 91, 92, 93, 94, 95, 96, 97, 98, 99, 100, 101, 102, 103, 104, 105, 106, 107, 108, 109, 110, 111, 112, 113, 114, 115, 116, 117, 118, 119, 120, 121, 122, 123, 124, 125, 126, 127, 128, 129, 130, 131, 132, 133, 134, 135, 136, 137, 138, 139, 140, 141, 142, 143, 144, 145, 146, 147, 148, 149, 150, 151] (by decide +kernel) (by decide +kernel)
set_option maxRecDepth 20000 in
theorem gX0_goOneCycle_X0_tryToIssue : GoodIn wsX0_goOneCycle (wsV RX0 92 RX0 yX0_tryToIssue wsX0_tryToIssue) := goodIn_app (goodIn_of _ (by decide +kernel)) ggX0_goOneCycle_X0_tryToIssue
set_option maxRecDepth 20000 in
theorem ggX0_tryToIssue_X1_code : GoodIn wsX0_tryToIssue wsX1_code := goodIn_r _ [13, 14, 15, 16, 141, 142, 143, 144, 132, 133, 134, 135, 136, 137, 138, 139, 140] (by decide +kernel) (by decide +kernel)
set_option maxRecDepth 20000 in
theorem gX0_tryToIssue_X1_code : GoodIn wsX0_tryToIssue (wsV RX0 86 RX1 yX1_code wsX1_code) := goodIn_app (goodIn_of _ (by decide +kernel)) ggX0_tryToIssue_X1_code
set_option maxRecDepth 20000 in
theorem ggX0_tryToIssue_X0_lowestFreeUnit : GoodIn wsX0_tryToIssue wsX0_lowestFreeUnit := goodIn_r _ [21, 5, 22, 23, 3, 24, 25, 26, 114, 115, 116, 117, 118, 119, 120, 121, 122, 123, 124, 125, 126, 127, 128, 129, 130, 131, 132, 133, 134, 135, 136, 137, 138, 139, 140] (by decide +kernel) (by decide +kernel)
set_option maxRecDepth 20000 in
theorem gX0_tryToIssue_X0_lowestFreeUnit : GoodIn wsX0_tryToIssue (wsV RX0 98 RX0 yX0_lowestFreeUnit wsX0_lowestFreeUnit) := goodIn_app (goodIn_of _ (by decide +kernel)) ggX0_tryToIssue_X0_lowestFreeUnit
set_option maxRecDepth 20000 in
theorem ggX0_tryToIssue_X3_writesD : GoodIn wsX0_tryToIssue wsX3_writesD := goodIn_r _ [28] (by decide +kernel) (by decide +kernel)
set_option maxRecDepth 20000 in
theorem gX0_tryToIssue_X3_writesD_n102 : GoodIn wsX0_tryToIssue (wsX3_writesD) := ggX0_tryToIssue_X3_writesD
set_option maxRecDepth 20000 in
theorem ggX0_tryToIssue_X0_settleCycles : GoodIn wsX0_tryToIssue wsX0_settleCycles := goodIn_r _ [32, 1, 7, 3, 4, 5, 33, 34, 35, 36, 37, 6, 38, 39, 40, 8, 41, 25, 42, 43, 44, 45, 46, 47, 48, 49, 50, 51, 52, 27, 28, 114, 115, 116, 117, 118, 119, 120, 121, 122, 123, 124, 125, 126, 127, 128, 129, 130, 131, 141, 142, 143, 144, 132, 133, 134, 135, 136, 137, 138, 139, 140] (by decide +kernel) (by decide +kernel)
set_option maxRecDepth 20000 in
theorem gX0_tryToIssue_X0_settleCycles : GoodIn wsX0_tryToIssue (wsV RX0 112 RX0 yX0_settleCycles wsX0_settleCycles) := goodIn_app (goodIn_of _ (by decide +kernel)) ggX0_tryToIssue_X0_settleCycles
set_option maxRecDepth 20000 in
theorem ggX0_tryToIssue_X3_unitRow : GoodIn wsX0_tryToIssue wsX3_unitRow := goodIn_r _ [26] (by decide +kernel) (by decide +kernel)
set_option maxRecDepth 20000 in
theorem gX0_tryToIssue_X3_unitRow_n116 : GoodIn wsX0_tryToIssue (wsX3_unitRow) := ggX0_tryToIssue_X3_unitRow
set_option maxRecDepth 20000 in
theorem ggX0_tryToIssue_X0_keepRow : GoodIn wsX0_tryToIssue wsX0_keepRow := goodIn_r _ [56, 40, 23, 57, 58, 59, 60, 61, 8, 62, 63, 20, 64, 114, 115, 116, 117, 118, 119, 120, 121, 122, 123, 124, 125, 126, 127, 128, 129, 130, 131] (by decide +kernel) (by decide +kernel)
set_option maxRecDepth 20000 in
theorem gX0_tryToIssue_X0_keepRow : GoodIn wsX0_tryToIssue (wsV RX0 120 RX0 yX0_keepRow wsX0_keepRow) := goodIn_app (goodIn_of _ (by decide +kernel)) ggX0_tryToIssue_X0_keepRow
set_option maxRecDepth 20000 in
theorem ggX0_tryToIssue_X0_noteReading : GoodIn wsX0_tryToIssue wsX0_noteReading := goodIn_r _ [68, 1, 7, 5, 33, 6, 41, 25, 42, 69, 70, 71, 20, 72, 39, 40, 34, 35, 36, 37, 43, 44, 45, 46, 47, 48, 49, 50, 51, 52, 114, 115, 116, 117, 118, 119, 120, 121, 122, 123, 124, 125, 126, 127, 128, 129, 130, 131, 141, 142, 143, 144, 132, 133, 134, 135, 136, 137, 138, 139, 140] (by decide +kernel) (by decide +kernel)
set_option maxRecDepth 20000 in
theorem gX0_tryToIssue_X0_noteReading : GoodIn wsX0_tryToIssue (wsV RX0 124 RX0 yX0_noteReading wsX0_noteReading) := goodIn_app (goodIn_of _ (by decide +kernel)) ggX0_tryToIssue_X0_noteReading
set_option maxRecDepth 20000 in
theorem ggX0_tryToIssue_X0_noteWriting : GoodIn wsX0_tryToIssue wsX0_noteWriting := goodIn_r _ [76, 40, 77, 34, 35, 36, 37, 2, 1, 78, 79, 80, 81, 5, 6, 7, 82, 8, 4, 83, 84, 85, 86, 87, 12, 88, 89, 14, 90, 16, 91, 92, 114, 115, 116, 117, 118, 119, 120, 121, 122, 123, 124, 125, 126, 127, 128, 129, 130, 131, 141, 142, 143, 144, 132, 133, 134, 135, 136, 137, 138, 139, 140] (by decide +kernel) (by decide +kernel)
set_option maxRecDepth 20000 in
theorem gX0_tryToIssue_X0_noteWriting : GoodIn wsX0_tryToIssue (wsV RX0 127 RX0 yX0_noteWriting wsX0_noteWriting) := goodIn_app (goodIn_of _ (by decide +kernel)) ggX0_tryToIssue_X0_noteWriting
set_option maxRecDepth 20000 in
theorem ggX0_tryToIssue_X1_step : GoodIn wsX0_tryToIssue wsX1_step := goodIn_r _ [96, 14, 97, 16, 98, 89, 99, 10, 11, 12, 13, 15, 100, 86, 87, 88, 90, 91, 92, 27, 25, 28, 101, 102, 103, 104, 105, 46, 47, 48, 49, 50, 106, 107, 108, 109, 110, 111, 112, 113, 141, 142, 143, 144, 132, 133, 134, 135, 136, 137, 138, 139, 140] (by decide +kernel) (by decide +kernel)
set_option maxRecDepth 20000 in
theorem gX0_tryToIssue_X1_step : GoodIn wsX0_tryToIssue (wsV RX0 130 RX1 yX1_step wsX1_step) := goodIn_app (goodIn_of _ (by decide +kernel)) ggX0_tryToIssue_X1_step
set_option maxRecDepth 20000 in
theorem ggX0_lowestFreeUnit_X3_unitRow : GoodIn wsX0_lowestFreeUnit wsX3_unitRow := goodIn_r _ [7] (by decide +kernel) (by decide +kernel)
set_option maxRecDepth 20000 in
theorem gX0_lowestFreeUnit_X3_unitRow_n116 : GoodIn wsX0_lowestFreeUnit (wsX3_unitRow) := ggX0_lowestFreeUnit_X3_unitRow
set_option maxRecDepth 20000 in
theorem ggX0_settleCycles_X3_readsA : GoodIn wsX0_settleCycles wsX3_readsA := goodIn_r _ [18] (by decide +kernel) (by decide +kernel)
set_option maxRecDepth 20000 in
theorem gX0_settleCycles_X3_readsA_n136 : GoodIn wsX0_settleCycles (wsX3_readsA) := ggX0_settleCycles_X3_readsA
set_option maxRecDepth 20000 in
theorem ggX0_settleCycles_X3_readsB : GoodIn wsX0_settleCycles wsX3_readsB := goodIn_r _ [20] (by decide +kernel) (by decide +kernel)
set_option maxRecDepth 20000 in
theorem gX0_settleCycles_X3_readsB_n147 : GoodIn wsX0_settleCycles (wsX3_readsB) := ggX0_settleCycles_X3_readsB
set_option maxRecDepth 20000 in
theorem ggX0_settleCycles_X2_registerB : GoodIn wsX0_settleCycles wsX2_registerB := goodIn_r _ [25, 26, 53, 54, 55, 56, 57, 58, 59, 60, 61] (by decide +kernel) (by decide +kernel)
set_option maxRecDepth 20000 in
theorem gX0_settleCycles_X2_registerB : GoodIn wsX0_settleCycles (wsV RX0 150 RX2 yX2_registerB wsX2_registerB) := goodIn_app (goodIn_of _ (by decide +kernel)) ggX0_settleCycles_X2_registerB
set_option maxRecDepth 20000 in
theorem ggX0_settleCycles_X3_readsD : GoodIn wsX0_settleCycles wsX3_readsD := goodIn_r _ [28] (by decide +kernel) (by decide +kernel)
set_option maxRecDepth 20000 in
theorem gX0_settleCycles_X3_readsD_n153 : GoodIn wsX0_settleCycles (wsX3_readsD) := ggX0_settleCycles_X3_readsD
set_option maxRecDepth 20000 in
theorem ggX0_settleCycles_X3_writesD : GoodIn wsX0_settleCycles wsX3_writesD := goodIn_r _ [30] (by decide +kernel) (by decide +kernel)
set_option maxRecDepth 20000 in
theorem gX0_settleCycles_X3_writesD_n102 : GoodIn wsX0_settleCycles (wsX3_writesD) := ggX0_settleCycles_X3_writesD
set_option maxRecDepth 20000 in
theorem ggX0_keepRow_X0_issuedStart : GoodIn wsX0_keepRow wsX0_issuedStart := goodIn_r _ [12] (by decide +kernel) (by decide +kernel)
set_option maxRecDepth 20000 in
theorem gX0_keepRow_X0_issuedStart : GoodIn wsX0_keepRow (va_wsS RX0 165 yX0_issuedStart wsX0_issuedStart) := goodIn_app (goodIn_of _ (by decide +kernel)) ggX0_keepRow_X0_issuedStart
set_option maxRecDepth 20000 in
theorem ggX0_noteReading_X3_readsA : GoodIn wsX0_noteReading wsX3_readsA := goodIn_r _ [8] (by decide +kernel) (by decide +kernel)
set_option maxRecDepth 20000 in
theorem gX0_noteReading_X3_readsA_n136 : GoodIn wsX0_noteReading (wsX3_readsA) := ggX0_noteReading_X3_readsA
set_option maxRecDepth 20000 in
theorem ggX0_noteReading_X0_noteReader : GoodIn wsX0_noteReading wsX0_noteReader := goodIn_r _ [13, 14, 15, 16, 17, 18, 19, 30, 31, 32, 33, 34, 35, 36, 37, 38, 39, 40, 41, 42, 43, 44, 45, 46, 47] (by decide +kernel) (by decide +kernel)
set_option maxRecDepth 20000 in
theorem gX0_noteReading_X0_noteReader : GoodIn wsX0_noteReading (wsV RX0 168 RX0 yX0_noteReader wsX0_noteReader) := goodIn_app (goodIn_of _ (by decide +kernel)) ggX0_noteReading_X0_noteReader
set_option maxRecDepth 20000 in
theorem ggX0_noteReading_X3_readsB : GoodIn wsX0_noteReading wsX3_readsB := goodIn_r _ [21] (by decide +kernel) (by decide +kernel)
set_option maxRecDepth 20000 in
theorem gX0_noteReading_X3_readsB_n147 : GoodIn wsX0_noteReading (wsX3_readsB) := ggX0_noteReading_X3_readsB
set_option maxRecDepth 20000 in
theorem ggX0_noteReading_X2_registerB : GoodIn wsX0_noteReading wsX2_registerB := goodIn_r _ [26, 27, 52, 53, 54, 55, 56, 57, 58, 59, 60] (by decide +kernel) (by decide +kernel)
set_option maxRecDepth 20000 in
theorem gX0_noteReading_X2_registerB : GoodIn wsX0_noteReading (wsV RX0 150 RX2 yX2_registerB wsX2_registerB) := goodIn_app (goodIn_of _ (by decide +kernel)) ggX0_noteReading_X2_registerB
set_option maxRecDepth 20000 in
theorem ggX0_noteReading_X3_readsD : GoodIn wsX0_noteReading wsX3_readsD := goodIn_r _ [29] (by decide +kernel) (by decide +kernel)
set_option maxRecDepth 20000 in
theorem gX0_noteReading_X3_readsD_n153 : GoodIn wsX0_noteReading (wsX3_readsD) := ggX0_noteReading_X3_readsD
set_option maxRecDepth 20000 in
theorem ggX0_noteWriting_X1_cell : GoodIn wsX0_noteWriting wsX1_cell := goodIn_r _ [25, 26, 27, 28, 29, 30, 31, 50, 51, 52, 53, 54, 55, 56, 57, 58, 59, 60, 61, 62] (by decide +kernel) (by decide +kernel)
set_option maxRecDepth 20000 in
theorem gX0_noteWriting_X1_cell : GoodIn wsX0_noteWriting (wsV RX0 171 RX1 yX1_cell wsX1_cell) := goodIn_app (goodIn_of _ (by decide +kernel)) ggX0_noteWriting_X1_cell
set_option maxRecDepth 20000 in
theorem ggX0_tellIssued_X0_issuedStart : GoodIn wsX0_tellIssued wsX0_issuedStart := goodIn_r _ [6] (by decide +kernel) (by decide +kernel)
set_option maxRecDepth 20000 in
theorem gX0_tellIssued_X0_issuedStart : GoodIn wsX0_tellIssued (va_wsS RX0 165 yX0_issuedStart wsX0_issuedStart) := goodIn_app (goodIn_of _ (by decide +kernel)) ggX0_tellIssued_X0_issuedStart
set_option maxRecDepth 20000 in
theorem ggX1_step_X1_code : GoodIn wsX1_step wsX1_code := goodIn_r _ [10, 1, 11, 3, 40, 41, 42, 43, 44, 45, 46, 47, 48, 49, 50, 51, 52] (by decide +kernel) (by decide +kernel)
set_option maxRecDepth 20000 in
theorem gX1_step_X1_code : GoodIn wsX1_step (wsV RX1 48 RX1 yX1_code wsX1_code) := goodIn_app (goodIn_of _ (by decide +kernel)) ggX1_step_X1_code
set_option maxRecDepth 20000 in
theorem ggX1_step_X1_cell : GoodIn wsX1_step wsX1_cell := goodIn_r _ [15, 5, 1, 16, 3, 17, 18, 40, 41, 42, 43, 44, 45, 46, 47, 48, 49, 50, 51, 52] (by decide +kernel) (by decide +kernel)
set_option maxRecDepth 20000 in
theorem gX1_step_X1_cell : GoodIn wsX1_step (wsV RX1 55 RX1 yX1_cell wsX1_cell) := goodIn_app (goodIn_of _ (by decide +kernel)) ggX1_step_X1_cell
set_option maxRecDepth 20000 in
theorem ggX1_step_X3_writesD : GoodIn wsX1_step wsX3_writesD := goodIn_r _ [21] (by decide +kernel) (by decide +kernel)
set_option maxRecDepth 20000 in
theorem gX1_step_X3_writesD_n58 : GoodIn wsX1_step (wsX3_writesD) := ggX1_step_X3_writesD
set_option maxRecDepth 20000 in
theorem ggX1_step_X1_value : GoodIn wsX1_step wsX1_value := goodIn_r _ [25, 4, 5, 1, 16, 3, 17, 12, 13, 14, 9, 15, 18, 26, 27, 28, 29, 30, 31, 32, 33, 34, 35, 40, 41, 42, 43, 44, 45, 46, 47, 48, 49, 50, 51, 52] (by decide +kernel) (by decide +kernel)
set_option maxRecDepth 20000 in
theorem gX1_step_X1_value : GoodIn wsX1_step (wsV RX1 62 RX1 yX1_value wsX1_value) := goodIn_app (goodIn_of _ (by decide +kernel)) ggX1_step_X1_value
set_option maxRecDepth 20000 in
theorem ggX1_step_X1_placeAfter : GoodIn wsX1_step wsX1_placeAfter := goodIn_r _ [39, 5, 1, 16, 3, 17, 40, 41, 42, 43, 44, 45, 46, 47, 48, 49, 50, 51, 52] (by decide +kernel) (by decide +kernel)
set_option maxRecDepth 20000 in
theorem gX1_step_X1_placeAfter : GoodIn wsX1_step (wsV RX1 66 RX1 yX1_placeAfter wsX1_placeAfter) := goodIn_app (goodIn_of _ (by decide +kernel)) ggX1_step_X1_placeAfter
set_option maxRecDepth 20000 in
theorem ggX1_value_X1_cell : GoodIn wsX1_value wsX1_cell := goodIn_r _ [11, 2, 3, 4, 5, 6, 12, 23, 24, 25, 26, 27, 28, 29, 30, 31, 32, 33, 34, 35] (by decide +kernel) (by decide +kernel)
set_option maxRecDepth 20000 in
theorem gX1_value_X1_cell : GoodIn wsX1_value (wsV RX1 55 RX1 yX1_cell wsX1_cell) := goodIn_app (goodIn_of _ (by decide +kernel)) ggX1_value_X1_cell
set_option maxRecDepth 20000 in
theorem ggX1_value_X2_registerB : GoodIn wsX1_value wsX2_registerB := goodIn_r _ [17, 18, 27, 28, 29, 30, 31, 32, 33, 34, 35] (by decide +kernel) (by decide +kernel)
set_option maxRecDepth 20000 in
theorem gX1_value_X2_registerB : GoodIn wsX1_value (wsV RX1 70 RX2 yX2_registerB wsX2_registerB) := goodIn_app (goodIn_of _ (by decide +kernel)) ggX1_value_X2_registerB
set_option maxRecDepth 20000 in
theorem ggX1_value_X1_worked : GoodIn wsX1_value wsX1_worked := goodIn_r _ [21, 22] (by decide +kernel) (by decide +kernel)
set_option maxRecDepth 20000 in
theorem gX1_value_X1_worked : GoodIn wsX1_value (va_wsS RX1 73 yX1_worked wsX1_worked) := goodIn_app (goodIn_of _ (by decide +kernel)) ggX1_value_X1_worked
set_option maxRecDepth 20000 in
theorem ggX2_init_X2_begin : GoodIn wsX2_init wsX2_begin := goodIn_r _ [18, 5, 6, 7, 8, 9, 10, 19, 20, 21, 22, 12, 13, 23, 24, 25, 26, 27, 28, 29, 30, 31, 32, 33, 34, 35, 36, 37, 38, 39] (by decide +kernel) (by decide +kernel)
set_option maxRecDepth 20000 in
theorem gX2_init_X2_begin : GoodIn wsX2_init (wsV RX2 37 RX2 yX2_begin wsX2_begin) := goodIn_app (goodIn_of _ (by decide +kernel)) ggX2_init_X2_begin
set_option maxRecDepth 20000 in
theorem ggX2_begin_J7_fill_53178 : GoodIn wsX2_begin wsJ7_fill_53178 := goodIn_r _ [17] (by decide +kernel) (by decide +kernel)
set_option maxRecDepth 20000 in
theorem gX2_begin_J7_fill_53178 : GoodIn wsX2_begin (va_wsS RX2 40 yJ7_fill_53178 wsJ7_fill_53178) := goodIn_app (goodIn_of _ (by decide +kernel)) ggX2_begin_J7_fill_53178
set_option maxRecDepth 20000 in
theorem ggX2_begin_J7_fill_d0a16 : GoodIn wsX2_begin wsJ7_fill_d0a16 := goodIn_r _ [20] (by decide +kernel) (by decide +kernel)
set_option maxRecDepth 20000 in
theorem gX2_begin_J7_fill_d0a16 : GoodIn wsX2_begin (va_wsS RX2 55 yJ7_fill_d0a16 wsJ7_fill_d0a16) := goodIn_app (goodIn_of _ (by decide +kernel)) ggX2_begin_J7_fill_d0a16
set_option maxRecDepth 20000 in
theorem ggX3_init_X2_init : GoodIn wsX3_init wsX2_init := goodIn_r _ [18, 19, 2, 3, 20, 21, 22, 23, 24, 25, 26, 27, 28, 29, 30, 31, 32, 6, 33, 34, 35, 36, 37, 38, 39, 40, 41, 42, 43, 44, 45, 67, 68, 69, 70, 71, 72, 73, 74, 75] (by decide +kernel) (by decide +kernel)
set_option maxRecDepth 20000 in
theorem gX3_init_X2_init : GoodIn wsX3_init (wsX2_init) := ggX3_init_X2_init
set_option maxRecDepth 20000 in
theorem ggX3_init_X1_init : GoodIn wsX3_init wsX1_init := goodIn_r _ [48, 49, 2, 3, 27, 50, 51, 52, 79, 80, 81, 82] (by decide +kernel) (by decide +kernel)
set_option maxRecDepth 20000 in
theorem gX3_init_X1_init : GoodIn wsX3_init (wsX1_init) := ggX3_init_X1_init
set_option maxRecDepth 20000 in
theorem ggX3_init_X0_init : GoodIn wsX3_init wsX0_init := goodIn_r _ [55, 56, 2, 3, 20, 57, 58, 59, 27, 60, 61, 62, 63, 64, 65, 66, 83, 84, 85, 86, 87, 88, 89, 90, 91, 92, 93, 94, 95, 96, 97, 98, 99, 100] (by decide +kernel) (by decide +kernel)
set_option maxRecDepth 20000 in
theorem gX3_init_X0_init : GoodIn wsX3_init (wsX0_init) := ggX3_init_X0_init
set_option maxRecDepth 20000 in
theorem ggX3_put_X3_began : GoodIn wsX3_put wsX3_began := goodIn_r _ [11, 12, 13, 17, 18, 19, 29, 30, 31, 32, 33, 34, 35, 36, 37, 38, 39, 40, 41, 42, 43, 44, 45, 46] (by decide +kernel) (by decide +kernel)
set_option maxRecDepth 20000 in
theorem gX3_put_X3_began : GoodIn wsX3_put (wsV RX3 34 RX3 yX3_began wsX3_began) := goodIn_app (goodIn_of _ (by decide +kernel)) ggX3_put_X3_began
set_option maxRecDepth 20000 in
theorem ggX3_put_X3_within : GoodIn wsX3_put wsX3_within := goodIn_r _ [16] (by decide +kernel) (by decide +kernel)
set_option maxRecDepth 20000 in
theorem gX3_put_X3_within : GoodIn wsX3_put (va_wsS RX3 38 yX3_within wsX3_within) := goodIn_app (goodIn_of _ (by decide +kernel)) ggX3_put_X3_within
set_option maxRecDepth 20000 in
theorem ggX3_units_X3_began : GoodIn wsX3_units wsX3_began := goodIn_r _ [7, 8, 9, 13, 14, 15, 25, 26, 27, 28, 29, 30, 31, 32, 33, 34, 35, 36, 37, 38, 39, 40, 41, 42] (by decide +kernel) (by decide +kernel)
set_option maxRecDepth 20000 in
theorem gX3_units_X3_began : GoodIn wsX3_units (wsV RX3 34 RX3 yX3_began wsX3_began) := goodIn_app (goodIn_of _ (by decide +kernel)) ggX3_units_X3_began
set_option maxRecDepth 20000 in
theorem ggX3_units_X3_within : GoodIn wsX3_units wsX3_within := goodIn_r _ [12] (by decide +kernel) (by decide +kernel)
set_option maxRecDepth 20000 in
theorem gX3_units_X3_within : GoodIn wsX3_units (va_wsS RX3 38 yX3_within wsX3_within) := goodIn_app (goodIn_of _ (by decide +kernel)) ggX3_units_X3_within
set_option maxRecDepth 20000 in
theorem ggX3_latency_X3_began : GoodIn wsX3_latency wsX3_began := goodIn_r _ [7, 8, 9, 13, 14, 15, 25, 26, 27, 28, 29, 30, 31, 32, 33, 34, 35, 36, 37, 38, 39, 40, 41, 42] (by decide +kernel) (by decide +kernel)
set_option maxRecDepth 20000 in
theorem gX3_latency_X3_began : GoodIn wsX3_latency (wsV RX3 34 RX3 yX3_began wsX3_began) := goodIn_app (goodIn_of _ (by decide +kernel)) ggX3_latency_X3_began
set_option maxRecDepth 20000 in
theorem ggX3_latency_X3_within : GoodIn wsX3_latency wsX3_within := goodIn_r _ [12] (by decide +kernel) (by decide +kernel)
set_option maxRecDepth 20000 in
theorem gX3_latency_X3_within : GoodIn wsX3_latency (va_wsS RX3 38 yX3_within wsX3_within) := goodIn_app (goodIn_of _ (by decide +kernel)) ggX3_latency_X3_within
set_option maxRecDepth 20000 in
theorem ggX3_width_X3_began : GoodIn wsX3_width wsX3_began := goodIn_r _ [7, 8, 9, 10, 11, 12, 22, 23, 24, 25, 26, 27, 28, 29, 30, 31, 32, 33, 34, 35, 36, 37, 38, 39] (by decide +kernel) (by decide +kernel)
set_option maxRecDepth 20000 in
theorem gX3_width_X3_began : GoodIn wsX3_width (wsV RX3 34 RX3 yX3_began wsX3_began) := goodIn_app (goodIn_of _ (by decide +kernel)) ggX3_width_X3_began
set_option maxRecDepth 20000 in
theorem ggX3_set_X3_began : GoodIn wsX3_set wsX3_began := goodIn_r _ [11, 12, 13, 20, 21, 22, 36, 37, 38, 39, 40, 41, 42, 43, 44, 45, 46, 47, 48, 49, 50, 51, 52, 53] (by decide +kernel) (by decide +kernel)
set_option maxRecDepth 20000 in
theorem gX3_set_X3_began : GoodIn wsX3_set (wsV RX3 34 RX3 yX3_began wsX3_began) := goodIn_app (goodIn_of _ (by decide +kernel)) ggX3_set_X3_began
set_option maxRecDepth 20000 in
theorem ggX3_set_X3_isThere : GoodIn wsX3_set wsX3_isThere := goodIn_r _ [16, 17, 18, 10, 19] (by decide +kernel) (by decide +kernel)
set_option maxRecDepth 20000 in
theorem gX3_set_X3_isThere : GoodIn wsX3_set (va_wsS RX3 68 yX3_isThere wsX3_isThere) := goodIn_app (goodIn_of _ (by decide +kernel)) ggX3_set_X3_isThere
set_option maxRecDepth 20000 in
theorem ggX3_run_X0_goOneCycle : GoodIn wsX3_run wsX0_goOneCycle := goodIn_r _ [7, 8, 9, 10, 11, 12, 13, 14, 15, 16, 17, 18, 19, 20, 21, 22, 23, 24, 25, 6, 26, 27, 28, 29, 30, 31, 32, 33, 34, 35, 36, 37, 38, 39, 40, 41, 42, 43, 44, 45, 46, 47, 48, 49, 50, 51, 52, 53, 54, 55, 56, 57, 58, 59, 60, 61, 62, 63, 64, 65, 66, 67, 68, 69, 70, 71, 72, 73, 74, 75, 76, 77, 78, 79, 80, 81, 82, 83, 84, 85, 86, 87, 88, 89, 90, 91, 92, 93, 94, 95, 96, 97, 98, 99, 100, 101, 102, 103, 104, 105, 106, 107, 108, 109, 110, 111, 112, 113, 114, 115, 116, 117, 118, 119, 120, 121, 122, 123, 124, 125, 126, 130, 131, 132, 133, 134, 135, 136, 137, 138, 139, 140, 141, 142, 143, 144, 145, 146, 147, 148, 149, 150, 151, 152, 153, 154, 155, 156, 157, 158, 159, 160] (by decide +kernel) (by decide +kernel)
set_option maxRecDepth 20000 in
theorem gX3_run_X0_goOneCycle : GoodIn wsX3_run (wsV RX3 84 RX0 yX0_goOneCycle wsX0_goOneCycle) := goodIn_app (goodIn_of _ (by decide +kernel)) ggX3_run_X0_goOneCycle
set_option maxRecDepth 20000 in
theorem ggX3_again_X1_begin : GoodIn wsX3_again wsX1_begin := goodIn_r _ [7, 8, 9, 10, 11, 12, 13, 14, 15, 16, 17, 48, 49, 50, 51, 52, 53, 54, 55, 56, 57, 58, 59, 60] (by decide +kernel) (by decide +kernel)
set_option maxRecDepth 20000 in
theorem gX3_again_X1_begin : GoodIn wsX3_again (wsV RX3 87 RX1 yX1_begin wsX1_begin) := goodIn_app (goodIn_of _ (by decide +kernel)) ggX3_again_X1_begin
set_option maxRecDepth 20000 in
theorem ggX3_again_X0_begin : GoodIn wsX3_again wsX0_begin := goodIn_r _ [22, 23, 24, 25, 26, 27, 28, 29, 30, 31, 32, 33, 34, 35, 36, 37, 38, 39, 40, 41, 42, 43, 44, 61, 62, 63, 64, 65, 66, 67, 68, 69, 70, 71, 72, 73, 74, 75, 76, 77, 78] (by decide +kernel) (by decide +kernel)
set_option maxRecDepth 20000 in
theorem gX3_again_X0_begin : GoodIn wsX3_again (wsV RX3 90 RX0 yX0_begin wsX0_begin) := goodIn_app (goodIn_of _ (by decide +kernel)) ggX3_again_X0_begin
set_option maxRecDepth 20000 in
theorem ggX3_clear_X2_begin : GoodIn wsX3_clear wsX2_begin := goodIn_r _ [8, 9, 10, 11, 12, 13, 14, 15, 16, 17, 18, 19, 20, 21, 22, 23, 24, 25, 26, 27, 28, 66, 67, 68, 69, 70, 71, 72, 73, 74] (by decide +kernel) (by decide +kernel)
set_option maxRecDepth 20000 in
theorem gX3_clear_X2_begin : GoodIn wsX3_clear (wsV RX3 91 RX2 yX2_begin wsX2_begin) := goodIn_app (goodIn_of _ (by decide +kernel)) ggX3_clear_X2_begin
set_option maxRecDepth 20000 in
theorem ggX3_clear_X1_begin : GoodIn wsX3_clear wsX1_begin := goodIn_r _ [33, 34, 35, 36, 37, 16, 17, 18, 38, 39, 40, 75, 76, 77, 78, 66, 67, 68, 69, 70, 71, 72, 73, 74] (by decide +kernel) (by decide +kernel)
set_option maxRecDepth 20000 in
theorem gX3_clear_X1_begin : GoodIn wsX3_clear (wsV RX3 87 RX1 yX1_begin wsX1_begin) := goodIn_app (goodIn_of _ (by decide +kernel)) ggX3_clear_X1_begin
set_option maxRecDepth 20000 in
theorem ggX3_clear_X0_begin : GoodIn wsX3_clear wsX0_begin := goodIn_r _ [45, 46, 47, 48, 49, 50, 51, 52, 53, 54, 55, 56, 57, 58, 59, 60, 61, 23, 24, 25, 62, 27, 28, 79, 80, 81, 82, 83, 84, 85, 86, 87, 88, 89, 90, 91, 92, 93, 94, 95, 96] (by decide +kernel) (by decide +kernel)
set_option maxRecDepth 20000 in
theorem gX3_clear_X0_begin : GoodIn wsX3_clear (wsV RX3 90 RX0 yX0_begin wsX0_begin) := goodIn_app (goodIn_of _ (by decide +kernel)) ggX3_clear_X0_begin
set_option maxRecDepth 20000 in
theorem ggX3_count_X0_notWritten : GoodIn wsX3_count wsX0_notWritten := goodIn_r _ [13, 14, 15, 19, 20, 21, 22, 23, 24, 25, 26, 27, 28, 29, 30, 31, 32, 33, 34, 35, 36] (by decide +kernel) (by decide +kernel)
set_option maxRecDepth 20000 in
theorem gX3_count_X0_notWritten : GoodIn wsX3_count (wsV RX3 98 RX0 yX0_notWritten wsX0_notWritten) := goodIn_app (goodIn_of _ (by decide +kernel)) ggX3_count_X0_notWritten
set_option maxRecDepth 20000 in
theorem ggX3_register_X3_within : GoodIn wsX3_register wsX3_within := goodIn_r _ [7] (by decide +kernel) (by decide +kernel)
set_option maxRecDepth 20000 in
theorem gX3_register_X3_within : GoodIn wsX3_register (va_wsS RX3 38 yX3_within wsX3_within) := goodIn_app (goodIn_of _ (by decide +kernel)) ggX3_register_X3_within
set_option maxRecDepth 20000 in
theorem ggX3_register_X0_registerNow : GoodIn wsX3_register wsX0_registerNow := goodIn_r _ [12, 13, 14, 15, 16, 17, 21, 22, 23, 24, 25, 26, 27, 28, 29, 30, 31, 32, 33, 34, 35, 36, 37, 38, 39, 40, 41, 42] (by decide +kernel) (by decide +kernel)
set_option maxRecDepth 20000 in
theorem gX3_register_X0_registerNow : GoodIn wsX3_register (wsV RX3 118 RX0 yX0_registerNow wsX0_registerNow) := goodIn_app (goodIn_of _ (by decide +kernel)) ggX3_register_X0_registerNow
set_option maxRecDepth 20000 in
theorem ggX3_memory_X3_within : GoodIn wsX3_memory wsX3_within := goodIn_r _ [7] (by decide +kernel) (by decide +kernel)
set_option maxRecDepth 20000 in
theorem gX3_memory_X3_within : GoodIn wsX3_memory (va_wsS RX3 38 yX3_within wsX3_within) := goodIn_app (goodIn_of _ (by decide +kernel)) ggX3_memory_X3_within
set_option maxRecDepth 20000 in
theorem ggX3_memory_X0_memoryNow : GoodIn wsX3_memory wsX0_memoryNow := goodIn_r _ [12, 13, 14, 15, 16, 17, 18, 22, 23, 24, 25, 26, 27, 28, 29, 30, 31, 32, 33, 34, 35, 36, 37, 38, 39, 40, 41, 42, 43] (by decide +kernel) (by decide +kernel)
set_option maxRecDepth 20000 in
theorem gX3_memory_X0_memoryNow : GoodIn wsX3_memory (wsV RX3 124 RX0 yX0_memoryNow wsX0_memoryNow) := goodIn_app (goodIn_of _ (by decide +kernel)) ggX3_memory_X0_memoryNow
set_option maxRecDepth 20000 in
theorem ggX3_plain_X3_isThere : GoodIn wsX3_plain wsX3_isThere := goodIn_r _ [9, 10, 11, 8, 12] (by decide +kernel) (by decide +kernel)
set_option maxRecDepth 20000 in
theorem gX3_plain_X3_isThere : GoodIn wsX3_plain (va_wsS RX3 68 yX3_isThere wsX3_isThere) := goodIn_app (goodIn_of _ (by decide +kernel)) ggX3_plain_X3_isThere
set_option maxRecDepth 20000 in
theorem ggX3_unit_X3_within : GoodIn wsX3_unit wsX3_within := goodIn_r _ [7] (by decide +kernel) (by decide +kernel)
set_option maxRecDepth 20000 in
theorem gX3_unit_X3_within : GoodIn wsX3_unit (va_wsS RX3 38 yX3_within wsX3_within) := goodIn_app (goodIn_of _ (by decide +kernel)) ggX3_unit_X3_within
set_option maxRecDepth 20000 in
theorem ggX3_unit_X3_unitRow : GoodIn wsX3_unit wsX3_unitRow := goodIn_r _ [10] (by decide +kernel) (by decide +kernel)
set_option maxRecDepth 20000 in
theorem gX3_unit_X3_unitRow : GoodIn wsX3_unit (va_wsS RX3 129 yX3_unitRow wsX3_unitRow) := goodIn_app (goodIn_of _ (by decide +kernel)) ggX3_unit_X3_unitRow
set_option maxRecDepth 20000 in
theorem ggX3_unit_X0_tellUnit : GoodIn wsX3_unit wsX0_tellUnit := goodIn_r _ [15, 16, 17, 30, 31, 32, 33, 34, 35, 36, 37, 38, 39, 40, 41, 42, 43, 44, 45, 46, 47] (by decide +kernel) (by decide +kernel)
set_option maxRecDepth 20000 in
theorem gX3_unit_X0_tellUnit : GoodIn wsX3_unit (wsV RX3 133 RX0 yX0_tellUnit wsX0_tellUnit) := goodIn_app (goodIn_of _ (by decide +kernel)) ggX3_unit_X0_tellUnit
set_option maxRecDepth 20000 in
theorem ggX3_pending_X3_within : GoodIn wsX3_pending wsX3_within := goodIn_r _ [8] (by decide +kernel) (by decide +kernel)
set_option maxRecDepth 20000 in
theorem gX3_pending_X3_within : GoodIn wsX3_pending (va_wsS RX3 38 yX3_within wsX3_within) := goodIn_app (goodIn_of _ (by decide +kernel)) ggX3_pending_X3_within
set_option maxRecDepth 20000 in
theorem ggX3_latest_X3_within : GoodIn wsX3_latest wsX3_within := goodIn_r _ [6] (by decide +kernel) (by decide +kernel)
set_option maxRecDepth 20000 in
theorem gX3_latest_X3_within : GoodIn wsX3_latest (va_wsS RX3 38 yX3_within wsX3_within) := goodIn_app (goodIn_of _ (by decide +kernel)) ggX3_latest_X3_within
set_option maxRecDepth 20000 in
theorem ggX3_latest_X0_tellIssued : GoodIn wsX3_latest wsX0_tellIssued := goodIn_r _ [11, 12, 13, 14, 15, 10, 16, 20, 21, 22, 23, 24, 25, 26, 27, 28, 29, 30, 31, 32, 33, 34, 35, 36, 37] (by decide +kernel) (by decide +kernel)
set_option maxRecDepth 20000 in
theorem gX3_latest_X0_tellIssued : GoodIn wsX3_latest (wsV RX3 142 RX0 yX0_tellIssued wsX0_tellIssued) := goodIn_app (goodIn_of _ (by decide +kernel)) ggX3_latest_X0_tellIssued
set_option maxRecDepth 20000 in
theorem ggX3_isThere_X3_within : GoodIn wsX3_isThere wsX3_within := goodIn_r _ [4] (by decide +kernel) (by decide +kernel)
set_option maxRecDepth 20000 in
theorem gX3_isThere_X3_within : GoodIn wsX3_isThere (va_wsS RX3 38 yX3_within wsX3_within) := goodIn_app (goodIn_of _ (by decide +kernel)) ggX3_isThere_X3_within
set_option maxRecDepth 20000 in
theorem ggX4_init_X4_clear : GoodIn wsX4_init wsX4_clear := goodIn_r _ [28, 29, 5, 6, 7, 30, 9, 10, 31, 32, 33, 27, 34, 35, 36, 37, 38, 39, 40, 41, 42, 15, 11, 13, 16, 17, 18, 12, 14, 22, 19, 43, 44, 45, 46, 47, 48, 49, 50, 51, 52, 53, 54, 55, 56, 57, 58, 59, 60, 61, 62, 63, 64, 65, 66, 67, 68, 69] (by decide +kernel) (by decide +kernel)
set_option maxRecDepth 20000 in
theorem gX4_init_X4_clear : GoodIn wsX4_init (wsV RX4 63 RX4 yX4_clear wsX4_clear) := goodIn_app (goodIn_of _ (by decide +kernel)) ggX4_init_X4_clear
set_option maxRecDepth 20000 in
theorem ggX4_clear_X4_again : GoodIn wsX4_clear wsX4_again := goodIn_r _ [12, 1, 13, 14, 15, 16, 17, 18, 19, 20, 21, 22, 6, 23, 24, 25, 26, 27, 7, 28, 29, 30, 31, 32, 33, 34, 35, 36, 37, 38, 39, 40, 41, 42, 43, 44, 45, 46, 47, 48, 49, 50, 51, 52, 53, 54, 55, 56, 57] (by decide +kernel) (by decide +kernel)
set_option maxRecDepth 20000 in
theorem gX4_clear_X4_again : GoodIn wsX4_clear (wsV RX4 73 RX4 yX4_again wsX4_again) := goodIn_app (goodIn_of _ (by decide +kernel)) ggX4_clear_X4_again
set_option maxRecDepth 20000 in
theorem ggX4_sameWritten_X4_code : GoodIn wsX4_sameWritten wsX4_code := goodIn_r _ [8, 2, 3, 12, 13, 14, 15, 16, 17, 18, 19, 20, 21, 22, 23, 24, 25, 26, 27, 28, 29, 30, 31, 32, 33, 34, 35, 36, 37, 38] (by decide +kernel) (by decide +kernel)
set_option maxRecDepth 20000 in
theorem gX4_sameWritten_X4_code : GoodIn wsX4_sameWritten (wsV RX4 101 RX4 yX4_code wsX4_code) := goodIn_app (goodIn_of _ (by decide +kernel)) ggX4_sameWritten_X4_code
set_option maxRecDepth 20000 in
theorem ggX4_sameWritten_X4_writes : GoodIn wsX4_sameWritten wsX4_writes := goodIn_r _ [11] (by decide +kernel) (by decide +kernel)
set_option maxRecDepth 20000 in
theorem gX4_sameWritten_X4_writes : GoodIn wsX4_sameWritten (va_wsS RX4 105 yX4_writes wsX4_writes) := goodIn_app (goodIn_of _ (by decide +kernel)) ggX4_sameWritten_X4_writes
set_option maxRecDepth 20000 in
theorem ggX4_issues_X4_begins : GoodIn wsX4_issues wsX4_begins := goodIn_r _ [6, 7, 8, 9, 10, 37, 38, 39, 40, 41, 42, 43, 44, 45, 46, 47, 48, 49, 50, 51, 52, 53, 54, 55, 56, 57, 58, 59, 60, 61, 62, 63] (by decide +kernel) (by decide +kernel)
set_option maxRecDepth 20000 in
theorem gX4_issues_X4_begins : GoodIn wsX4_issues (wsV RX4 109 RX4 yX4_begins wsX4_begins) := goodIn_app (goodIn_of _ (by decide +kernel)) ggX4_issues_X4_begins
set_option maxRecDepth 20000 in
theorem ggX4_issues_X4_greater : GoodIn wsX4_issues wsX4_greater := goodIn_r _ [13] (by decide +kernel) (by decide +kernel)
set_option maxRecDepth 20000 in
theorem gX4_issues_X4_greater : GoodIn wsX4_issues (va_wsS RX4 112 yX4_greater wsX4_greater) := goodIn_app (goodIn_of _ (by decide +kernel)) ggX4_issues_X4_greater
set_option maxRecDepth 20000 in
theorem ggX4_issues_X4_code : GoodIn wsX4_issues wsX4_code := goodIn_r _ [17, 18, 19, 37, 38, 39, 40, 41, 42, 43, 44, 45, 46, 47, 48, 49, 50, 51, 52, 53, 54, 55, 56, 57, 58, 59, 60, 61, 62, 63] (by decide +kernel) (by decide +kernel)
set_option maxRecDepth 20000 in
theorem gX4_issues_X4_code : GoodIn wsX4_issues (wsV RX4 101 RX4 yX4_code wsX4_code) := goodIn_app (goodIn_of _ (by decide +kernel)) ggX4_issues_X4_code
set_option maxRecDepth 20000 in
theorem ggX4_issues_X4_kindOf : GoodIn wsX4_issues wsX4_kindOf := goodIn_r _ [22] (by decide +kernel) (by decide +kernel)
set_option maxRecDepth 20000 in
theorem gX4_issues_X4_kindOf : GoodIn wsX4_issues (va_wsS RX4 116 yX4_kindOf wsX4_kindOf) := goodIn_app (goodIn_of _ (by decide +kernel)) ggX4_issues_X4_kindOf
set_option maxRecDepth 20000 in
theorem ggX4_issues_X4_unitWritten : GoodIn wsX4_issues wsX4_unitWritten := goodIn_r _ [26, 27, 28, 37, 38, 39, 40, 41, 42, 43, 44, 45, 46, 47, 48, 49, 50, 51, 52, 53, 54, 55, 56, 57, 58, 59, 60, 61, 62, 63] (by decide +kernel) (by decide +kernel)
set_option maxRecDepth 20000 in
theorem gX4_issues_X4_unitWritten : GoodIn wsX4_issues (wsV RX4 120 RX4 yX4_unitWritten wsX4_unitWritten) := goodIn_app (goodIn_of _ (by decide +kernel)) ggX4_issues_X4_unitWritten
set_option maxRecDepth 20000 in
theorem ggX4_issues_X4_sameWritten : GoodIn wsX4_issues wsX4_sameWritten := goodIn_r _ [32, 33, 18, 19, 14, 15, 16, 5, 17, 34, 35, 36, 37, 38, 39, 40, 41, 42, 43, 44, 45, 46, 47, 48, 49, 50, 51, 52, 53, 54, 55, 56, 57, 58, 59, 60, 61, 62, 63] (by decide +kernel) (by decide +kernel)
set_option maxRecDepth 20000 in
theorem gX4_issues_X4_sameWritten : GoodIn wsX4_issues (wsV RX4 123 RX4 yX4_sameWritten wsX4_sameWritten) := goodIn_app (goodIn_of _ (by decide +kernel)) ggX4_issues_X4_sameWritten
set_option maxRecDepth 20000 in
theorem ggX4_waited_X4_begins : GoodIn wsX4_waited wsX4_begins := goodIn_r _ [6, 7, 8, 9, 10, 37, 38, 39, 40, 41, 42, 43, 44, 45, 46, 47, 48, 49, 50, 51, 52, 53, 54, 55, 56, 57, 58, 59, 60, 61, 62, 63] (by decide +kernel) (by decide +kernel)
set_option maxRecDepth 20000 in
theorem gX4_waited_X4_begins : GoodIn wsX4_waited (wsV RX4 109 RX4 yX4_begins wsX4_begins) := goodIn_app (goodIn_of _ (by decide +kernel)) ggX4_waited_X4_begins
set_option maxRecDepth 20000 in
theorem ggX4_waited_X4_code : GoodIn wsX4_waited wsX4_code := goodIn_r _ [14, 15, 16, 37, 38, 39, 40, 41, 42, 43, 44, 45, 46, 47, 48, 49, 50, 51, 52, 53, 54, 55, 56, 57, 58, 59, 60, 61, 62, 63] (by decide +kernel) (by decide +kernel)
set_option maxRecDepth 20000 in
theorem gX4_waited_X4_code : GoodIn wsX4_waited (wsV RX4 101 RX4 yX4_code wsX4_code) := goodIn_app (goodIn_of _ (by decide +kernel)) ggX4_waited_X4_code
set_option maxRecDepth 20000 in
theorem ggX4_waited_X4_kindOf : GoodIn wsX4_waited wsX4_kindOf := goodIn_r _ [19] (by decide +kernel) (by decide +kernel)
set_option maxRecDepth 20000 in
theorem gX4_waited_X4_kindOf : GoodIn wsX4_waited (va_wsS RX4 116 yX4_kindOf wsX4_kindOf) := goodIn_app (goodIn_of _ (by decide +kernel)) ggX4_waited_X4_kindOf
set_option maxRecDepth 20000 in
theorem ggX4_waited_X4_unitWritten : GoodIn wsX4_waited wsX4_unitWritten := goodIn_r _ [23, 24, 25, 37, 38, 39, 40, 41, 42, 43, 44, 45, 46, 47, 48, 49, 50, 51, 52, 53, 54, 55, 56, 57, 58, 59, 60, 61, 62, 63] (by decide +kernel) (by decide +kernel)
set_option maxRecDepth 20000 in
theorem gX4_waited_X4_unitWritten : GoodIn wsX4_waited (wsV RX4 120 RX4 yX4_unitWritten wsX4_unitWritten) := goodIn_app (goodIn_of _ (by decide +kernel)) ggX4_waited_X4_unitWritten
set_option maxRecDepth 20000 in
theorem ggX4_waited_X4_greater : GoodIn wsX4_waited wsX4_greater := goodIn_r _ [28] (by decide +kernel) (by decide +kernel)
set_option maxRecDepth 20000 in
theorem gX4_waited_X4_greater : GoodIn wsX4_waited (va_wsS RX4 112 yX4_greater wsX4_greater) := goodIn_app (goodIn_of _ (by decide +kernel)) ggX4_waited_X4_greater
set_option maxRecDepth 20000 in
theorem ggX4_waited_X4_sameWritten : GoodIn wsX4_waited wsX4_sameWritten := goodIn_r _ [32, 33, 15, 16, 11, 12, 13, 5, 14, 34, 35, 36, 37, 38, 39, 40, 41, 42, 43, 44, 45, 46, 47, 48, 49, 50, 51, 52, 53, 54, 55, 56, 57, 58, 59, 60, 61, 62, 63] (by decide +kernel) (by decide +kernel)
set_option maxRecDepth 20000 in
theorem gX4_waited_X4_sameWritten : GoodIn wsX4_waited (wsV RX4 123 RX4 yX4_sameWritten wsX4_sameWritten) := goodIn_app (goodIn_of _ (by decide +kernel)) ggX4_waited_X4_sameWritten
set_option maxRecDepth 20000 in
theorem ggX4_does_X4_registerB : GoodIn wsX4_does wsX4_registerB := goodIn_r _ [11, 3, 1, 12, 13, 14, 15, 16, 17, 18, 19, 20, 21, 22, 23, 24, 25, 26, 27, 28, 29, 30, 31, 32, 33, 34, 35, 36, 37, 38] (by decide +kernel) (by decide +kernel)
set_option maxRecDepth 20000 in
theorem gX4_does_X4_registerB : GoodIn wsX4_does (wsV RX4 126 RX4 yX4_registerB wsX4_registerB) := goodIn_app (goodIn_of _ (by decide +kernel)) ggX4_does_X4_registerB
set_option maxRecDepth 20000 in
theorem ggX4_issue_X4_code : GoodIn wsX4_issue wsX4_code := goodIn_r _ [24, 1, 2, 73, 74, 75, 76, 77, 78, 79, 80, 81, 82, 83, 84, 85, 86, 87, 88, 89, 90, 91, 92, 93, 94, 95, 96, 97, 98, 99] (by decide +kernel) (by decide +kernel)
set_option maxRecDepth 20000 in
theorem gX4_issue_X4_code : GoodIn wsX4_issue (wsV RX4 101 RX4 yX4_code wsX4_code) := goodIn_app (goodIn_of _ (by decide +kernel)) ggX4_issue_X4_code
set_option maxRecDepth 20000 in
theorem ggX4_issue_X4_kindOf : GoodIn wsX4_issue wsX4_kindOf := goodIn_r _ [27] (by decide +kernel) (by decide +kernel)
set_option maxRecDepth 20000 in
theorem gX4_issue_X4_kindOf : GoodIn wsX4_issue (va_wsS RX4 116 yX4_kindOf wsX4_kindOf) := goodIn_app (goodIn_of _ (by decide +kernel)) ggX4_issue_X4_kindOf
set_option maxRecDepth 20000 in
theorem ggX4_issue_X4_registerB : GoodIn wsX4_issue wsX4_registerB := goodIn_r _ [31, 1, 2, 73, 74, 75, 76, 77, 78, 79, 80, 81, 82, 83, 84, 85, 86, 87, 88, 89, 90, 91, 92, 93, 94, 95, 96, 97, 98, 99] (by decide +kernel) (by decide +kernel)
set_option maxRecDepth 20000 in
theorem gX4_issue_X4_registerB : GoodIn wsX4_issue (wsV RX4 126 RX4 yX4_registerB wsX4_registerB) := goodIn_app (goodIn_of _ (by decide +kernel)) ggX4_issue_X4_registerB
set_option maxRecDepth 20000 in
theorem ggX4_issue_X4_waited : GoodIn wsX4_issue wsX4_waited := goodIn_r _ [35, 16, 36, 37, 38, 23, 39, 11, 19, 40, 18, 20, 21, 22, 24, 1, 2, 25, 26, 27, 41, 42, 43, 44, 4, 45, 46, 47, 48, 49, 50, 51, 52, 6, 53, 54, 55, 73, 74, 75, 76, 77, 78, 79, 80, 81, 82, 83, 84, 85, 86, 87, 88, 89, 90, 91, 92, 93, 94, 95, 96, 97, 98, 99] (by decide +kernel) (by decide +kernel)
set_option maxRecDepth 20000 in
theorem gX4_issue_X4_waited : GoodIn wsX4_issue (wsV RX4 133 RX4 yX4_waited wsX4_waited) := goodIn_app (goodIn_of _ (by decide +kernel)) ggX4_issue_X4_waited
set_option maxRecDepth 20000 in
theorem ggX4_issue_X4_commit : GoodIn wsX4_issue wsX4_commit := goodIn_r _ [59, 5, 4, 60, 13, 61, 73, 74, 75, 76, 77, 78, 79, 80, 81, 82, 83, 84, 85, 86, 87, 88, 89, 90, 91, 92, 93, 94, 95, 96, 97, 98, 99] (by decide +kernel) (by decide +kernel)
set_option maxRecDepth 20000 in
theorem gX4_issue_X4_commit : GoodIn wsX4_issue (wsV RX4 136 RX4 yX4_commit wsX4_commit) := goodIn_app (goodIn_of _ (by decide +kernel)) ggX4_issue_X4_commit
set_option maxRecDepth 20000 in
theorem ggX4_issue_X4_readsA : GoodIn wsX4_issue wsX4_readsA := goodIn_r _ [64] (by decide +kernel) (by decide +kernel)
set_option maxRecDepth 20000 in
theorem gX4_issue_X4_readsA : GoodIn wsX4_issue (va_wsS RX4 140 yX4_readsA wsX4_readsA) := goodIn_app (goodIn_of _ (by decide +kernel)) ggX4_issue_X4_readsA
set_option maxRecDepth 20000 in
theorem ggX4_issue_X4_greater : GoodIn wsX4_issue wsX4_greater := goodIn_r _ [48] (by decide +kernel) (by decide +kernel)
set_option maxRecDepth 20000 in
theorem gX4_issue_X4_greater : GoodIn wsX4_issue (va_wsS RX4 112 yX4_greater wsX4_greater) := goodIn_app (goodIn_of _ (by decide +kernel)) ggX4_issue_X4_greater
set_option maxRecDepth 20000 in
theorem ggX4_issue_X4_readsB : GoodIn wsX4_issue wsX4_readsB := goodIn_r _ [67] (by decide +kernel) (by decide +kernel)
set_option maxRecDepth 20000 in
theorem gX4_issue_X4_readsB : GoodIn wsX4_issue (va_wsS RX4 143 yX4_readsB wsX4_readsB) := goodIn_app (goodIn_of _ (by decide +kernel)) ggX4_issue_X4_readsB
set_option maxRecDepth 20000 in
theorem ggX4_issue_X4_writes : GoodIn wsX4_issue wsX4_writes := goodIn_r _ [55] (by decide +kernel) (by decide +kernel)
set_option maxRecDepth 20000 in
theorem gX4_issue_X4_writes : GoodIn wsX4_issue (va_wsS RX4 105 yX4_writes wsX4_writes) := goodIn_app (goodIn_of _ (by decide +kernel)) ggX4_issue_X4_writes
set_option maxRecDepth 20000 in
theorem ggX4_issue_X4_does : GoodIn wsX4_issue wsX4_does := goodIn_r _ [71, 2, 9, 1, 72, 15, 10, 28, 29, 30, 23, 31, 73, 74, 75, 76, 77, 78, 79, 80, 81, 82, 83, 84, 85, 86, 87, 88, 89, 90, 91, 92, 93, 94, 95, 96, 97, 98, 99] (by decide +kernel) (by decide +kernel)
set_option maxRecDepth 20000 in
theorem gX4_issue_X4_does : GoodIn wsX4_issue (wsV RX4 146 RX4 yX4_does wsX4_does) := goodIn_app (goodIn_of _ (by decide +kernel)) ggX4_issue_X4_does
set_option maxRecDepth 20000 in
theorem ggX4_run_X4_code : GoodIn wsX4_run wsX4_code := goodIn_r _ [12, 13, 14, 84, 85, 86, 87, 88, 89, 90, 91, 92, 93, 94, 95, 96, 97, 98, 99, 100, 101, 102, 103, 104, 105, 106, 107, 108, 109, 110] (by decide +kernel) (by decide +kernel)
set_option maxRecDepth 20000 in
theorem gX4_run_X4_code : GoodIn wsX4_run (wsV RX4 101 RX4 yX4_code wsX4_code) := goodIn_app (goodIn_of _ (by decide +kernel)) ggX4_run_X4_code
set_option maxRecDepth 20000 in
theorem ggX4_run_X4_greater : GoodIn wsX4_run wsX4_greater := goodIn_r _ [17] (by decide +kernel) (by decide +kernel)
set_option maxRecDepth 20000 in
theorem gX4_run_X4_greater : GoodIn wsX4_run (va_wsS RX4 112 yX4_greater wsX4_greater) := goodIn_app (goodIn_of _ (by decide +kernel)) ggX4_run_X4_greater
set_option maxRecDepth 20000 in
theorem ggX4_run_X4_issues : GoodIn wsX4_run wsX4_issues := goodIn_r _ [21, 22, 23, 24, 25, 11, 26, 27, 28, 29, 4, 15, 16, 17, 8, 9, 10, 12, 13, 14, 30, 31, 32, 33, 34, 35, 36, 7, 37, 38, 39, 40, 41, 42, 43, 44, 45, 84, 85, 86, 87, 88, 89, 90, 91, 92, 93, 94, 95, 96, 97, 98, 99, 100, 101, 102, 103, 104, 105, 106, 107, 108, 109, 110] (by decide +kernel) (by decide +kernel)
set_option maxRecDepth 20000 in
theorem gX4_run_X4_issues : GoodIn wsX4_run (wsV RX4 150 RX4 yX4_issues wsX4_issues) := goodIn_app (goodIn_of _ (by decide +kernel)) ggX4_run_X4_issues
set_option maxRecDepth 20000 in
theorem ggX4_run_X4_issue : GoodIn wsX4_run wsX4_issue := goodIn_r _ [49, 13, 14, 50, 7, 6, 42, 51, 52, 53, 54, 27, 55, 56, 57, 58, 22, 5, 4, 28, 8, 9, 10, 11, 12, 30, 31, 32, 59, 60, 61, 62, 63, 64, 65, 66, 23, 24, 25, 26, 29, 33, 34, 35, 36, 37, 15, 16, 17, 38, 39, 40, 41, 43, 44, 45, 67, 68, 69, 70, 71, 72, 73, 74, 75, 76, 77, 78, 79, 80, 81, 82, 83, 84, 85, 86, 87, 88, 89, 90, 91, 92, 93, 94, 95, 96, 97, 98, 99, 100, 101, 102, 103, 104, 105, 106, 107, 108, 109, 110] (by decide +kernel) (by decide +kernel)
set_option maxRecDepth 20000 in
theorem gX4_run_X4_issue : GoodIn wsX4_run (wsV RX4 153 RX4 yX4_issue wsX4_issue) := goodIn_app (goodIn_of _ (by decide +kernel)) ggX4_run_X4_issue
set_option maxRecDepth 20000 in
theorem ggX4_run_X4_commit : GoodIn wsX4_run wsX4_commit := goodIn_r _ [70, 6, 7, 71, 56, 72, 84, 85, 86, 87, 88, 89, 90, 91, 92, 93, 94, 95, 96, 97, 98, 99, 100, 101, 102, 103, 104, 105, 106, 107, 108, 109, 110] (by decide +kernel) (by decide +kernel)
set_option maxRecDepth 20000 in
theorem gX4_run_X4_commit : GoodIn wsX4_run (wsV RX4 136 RX4 yX4_commit wsX4_commit) := goodIn_app (goodIn_of _ (by decide +kernel)) ggX4_run_X4_commit
set_option maxRecDepth 20000 in
theorem ggX4_count_X4_open : GoodIn wsX4_count wsX4_open := goodIn_r _ [12, 13, 50, 51, 52, 53, 54, 55, 56, 57, 58, 59, 60, 61, 62, 63, 64, 65, 66, 67, 68, 69, 70, 71, 72, 73, 74, 75, 76] (by decide +kernel) (by decide +kernel)
set_option maxRecDepth 20000 in
theorem gX4_count_X4_open : GoodIn wsX4_count (wsV RX4 156 RX4 yX4_open wsX4_open) := goodIn_app (goodIn_of _ (by decide +kernel)) ggX4_count_X4_open
set_option maxRecDepth 20000 in
theorem ggX4_count_X4_code : GoodIn wsX4_count wsX4_code := goodIn_r _ [17, 18, 7, 50, 51, 52, 53, 54, 55, 56, 57, 58, 59, 60, 61, 62, 63, 64, 65, 66, 67, 68, 69, 70, 71, 72, 73, 74, 75, 76] (by decide +kernel) (by decide +kernel)
set_option maxRecDepth 20000 in
theorem gX4_count_X4_code : GoodIn wsX4_count (wsV RX4 101 RX4 yX4_code wsX4_code) := goodIn_app (goodIn_of _ (by decide +kernel)) ggX4_count_X4_code
set_option maxRecDepth 20000 in
theorem ggX4_count_X4_waited : GoodIn wsX4_count wsX4_waited := goodIn_r _ [22, 6, 23, 24, 25, 11, 26, 4, 27, 28, 29, 14, 15, 16, 17, 18, 7, 30, 31, 32, 33, 34, 35, 36, 37, 38, 39, 40, 41, 42, 43, 44, 45, 46, 47, 48, 49, 50, 51, 52, 53, 54, 55, 56, 57, 58, 59, 60, 61, 62, 63, 64, 65, 66, 67, 68, 69, 70, 71, 72, 73, 74, 75, 76] (by decide +kernel) (by decide +kernel)
set_option maxRecDepth 20000 in
theorem gX4_count_X4_waited : GoodIn wsX4_count (wsV RX4 133 RX4 yX4_waited wsX4_waited) := goodIn_app (goodIn_of _ (by decide +kernel)) ggX4_count_X4_waited
set_option maxRecDepth 20000 in
theorem ggL_register_X3_register : GoodIn wsL_register wsX3_register := goodIn_ca (goodIn_r _ [6, 7, 8, 9, 10, 11, 5, 12, 13, 14, 15, 16, 17, 18, 19, 20, 21, 22, 23, 24, 25, 26, 27, 28, 29, 30, 31, 32, 33, 34, 35, 36, 37, 38, 39, 40, 41, 42, 43, 44, 45, 46, 47] (by decide +kernel) (by decide +kernel)) (goodIn_sub (fun _ h => List.mem_cons_of_mem _ (List.mem_append_right _ h)) (by decide +kernel))
set_option maxRecDepth 20000 in
theorem gL_register_X3_register : GoodIn wsL_register (wsV RL 7 RX3 yX3_register wsX3_register) := goodIn_app (goodIn_of _ (by decide +kernel)) ggL_register_X3_register
set_option maxRecDepth 20000 in
theorem ggL_memory_X3_memory : GoodIn wsL_memory wsX3_memory := goodIn_ca (goodIn_r _ [6, 7, 8, 9, 10, 11, 5, 12, 13, 14, 15, 16, 17, 18, 19, 20, 21, 22, 23, 24, 25, 26, 27, 28, 29, 30, 31, 32, 33, 34, 35, 36, 37, 38, 39, 40, 41, 42, 43, 44, 45, 46, 47, 48] (by decide +kernel) (by decide +kernel)) (goodIn_sub (fun _ h => List.mem_cons_of_mem _ (List.mem_append_right _ h)) (by decide +kernel))
set_option maxRecDepth 20000 in
theorem gL_memory_X3_memory : GoodIn wsL_memory (wsV RL 15 RX3 yX3_memory wsX3_memory) := goodIn_app (goodIn_of _ (by decide +kernel)) ggL_memory_X3_memory
set_option maxRecDepth 20000 in
theorem ggL_plain_X3_plain : GoodIn wsL_plain wsX3_plain := goodIn_ca (goodIn_r _ [6, 7, 8, 9, 10, 11, 12, 13, 5, 14, 15, 16, 17, 18, 19, 20, 21, 22, 23, 24] (by decide +kernel) (by decide +kernel)) (goodIn_sub (fun _ h => List.mem_cons_of_mem _ (List.mem_append_right _ h)) (by decide +kernel))
set_option maxRecDepth 20000 in
theorem gL_plain_X3_plain : GoodIn wsL_plain (wsV RL 18 RX3 yX3_plain wsX3_plain) := goodIn_app (goodIn_of _ (by decide +kernel)) ggL_plain_X3_plain
set_option maxRecDepth 20000 in
theorem ggL_law_X3_init : GoodIn wsL_law wsX3_init := goodIn_r _ [10, 11, 12, 13, 14, 15, 16, 17, 18, 19, 20, 21, 22, 23, 24, 25, 26, 27, 28, 29, 30, 31, 32, 33, 34, 35, 36, 6, 37, 38, 39, 40, 41, 42, 43, 44, 45, 46, 47, 48, 49, 50, 51, 52, 53, 54, 55, 56, 57, 58, 59, 60, 61, 62, 63, 64, 65, 66, 67, 68, 69, 70, 71, 72, 73, 74, 75, 506, 507, 508, 509, 510, 511, 512, 513, 514, 476, 477, 478, 515, 516, 517, 518, 519, 520, 521, 522, 523, 524, 525, 526, 527, 528, 529, 530, 531, 532, 533, 534, 535, 536] (by decide +kernel) (by decide +kernel)
set_option maxRecDepth 20000 in
theorem gL_law_X3_init : GoodIn wsL_law (wsX3_init) := ggL_law_X3_init
set_option maxRecDepth 20000 in
theorem ggL_law_X4_init : GoodIn wsL_law wsX4_init := goodIn_r _ [78, 79, 12, 13, 30, 80, 81, 82, 6, 83, 84, 85, 86, 87, 88, 89, 90, 91, 92, 93, 94, 95, 96, 97, 98, 99, 100, 5, 101, 102, 103, 104, 105, 106, 107, 108, 109, 110, 111, 112, 113, 114, 115, 479, 480, 481, 482, 483, 484, 485, 486, 487, 488, 489, 490, 491, 492, 493, 494, 495, 496, 497, 498, 499, 500, 501, 502, 503, 504, 505] (by decide +kernel) (by decide +kernel)
set_option maxRecDepth 20000 in
theorem gL_law_X4_init : GoodIn wsL_law (wsX4_init) := ggL_law_X4_init
set_option maxRecDepth 20000 in
theorem ggL_law_X3_put : GoodIn wsL_law wsX3_put := goodIn_r _ [119, 120, 17, 121, 122, 123, 124, 125, 126, 127, 2, 128, 25, 129, 130, 131, 132, 476, 477, 478, 506, 507, 508, 509, 510, 511, 512, 513, 514, 519, 520, 521, 522, 523, 524, 525, 526, 527, 528, 529, 530, 531, 532, 533, 534, 535, 536] (by decide +kernel) (by decide +kernel)
set_option maxRecDepth 20000 in
theorem gL_law_X3_put : GoodIn wsL_law (wsV RL 26 RX3 yX3_put wsX3_put) := goodIn_app (goodIn_of _ (by decide +kernel)) ggL_law_X3_put
set_option maxRecDepth 20000 in
theorem ggL_law_X4_put : GoodIn wsL_law wsX4_put := goodIn_r _ [136, 102, 108, 80, 479, 480, 481, 482, 483, 484, 485, 486, 487, 488, 489, 490, 491, 492, 493, 494, 495, 496, 497, 498, 499, 500, 501, 502, 503, 504, 505] (by decide +kernel) (by decide +kernel)
set_option maxRecDepth 20000 in
theorem gL_law_X4_put : GoodIn wsL_law (wsV RL 30 RX4 yX4_put wsX4_put) := goodIn_app (goodIn_of _ (by decide +kernel)) ggL_law_X4_put
set_option maxRecDepth 20000 in
theorem ggL_law_X3_units : GoodIn wsL_law wsX3_units := goodIn_r _ [140, 17, 141, 125, 126, 127, 2, 128, 25, 129, 130, 131, 132, 476, 477, 478, 506, 507, 508, 509, 510, 511, 512, 513, 514, 519, 520, 521, 522, 523, 524, 525, 526, 527, 528, 529, 530, 531, 532, 533, 534, 535, 536] (by decide +kernel) (by decide +kernel)
set_option maxRecDepth 20000 in
theorem gL_law_X3_units : GoodIn wsL_law (wsV RL 31 RX3 yX3_units wsX3_units) := goodIn_app (goodIn_of _ (by decide +kernel)) ggL_law_X3_units
set_option maxRecDepth 20000 in
theorem ggL_law_X4_units : GoodIn wsL_law wsX4_units := goodIn_r _ [145, 102, 108, 81, 479, 480, 481, 482, 483, 484, 485, 486, 487, 488, 489, 490, 491, 492, 493, 494, 495, 496, 497, 498, 499, 500, 501, 502, 503, 504, 505] (by decide +kernel) (by decide +kernel)
set_option maxRecDepth 20000 in
theorem gL_law_X4_units : GoodIn wsL_law (wsV RL 35 RX4 yX4_units wsX4_units) := goodIn_app (goodIn_of _ (by decide +kernel)) ggL_law_X4_units
set_option maxRecDepth 20000 in
theorem ggL_law_X3_latency : GoodIn wsL_law wsX3_latency := goodIn_r _ [149, 17, 150, 125, 126, 127, 2, 128, 25, 129, 130, 131, 132, 476, 477, 478, 506, 507, 508, 509, 510, 511, 512, 513, 514, 519, 520, 521, 522, 523, 524, 525, 526, 527, 528, 529, 530, 531, 532, 533, 534, 535, 536] (by decide +kernel) (by decide +kernel)
set_option maxRecDepth 20000 in
theorem gL_law_X3_latency : GoodIn wsL_law (wsV RL 36 RX3 yX3_latency wsX3_latency) := goodIn_app (goodIn_of _ (by decide +kernel)) ggL_law_X3_latency
set_option maxRecDepth 20000 in
theorem ggL_law_X4_latency : GoodIn wsL_law wsX4_latency := goodIn_r _ [154, 102, 108, 82, 479, 480, 481, 482, 483, 484, 485, 486, 487, 488, 489, 490, 491, 492, 493, 494, 495, 496, 497, 498, 499, 500, 501, 502, 503, 504, 505] (by decide +kernel) (by decide +kernel)
set_option maxRecDepth 20000 in
theorem gL_law_X4_latency : GoodIn wsL_law (wsV RL 39 RX4 yX4_latency wsX4_latency) := goodIn_app (goodIn_of _ (by decide +kernel)) ggL_law_X4_latency
set_option maxRecDepth 20000 in
theorem ggL_law_X3_width : GoodIn wsL_law wsX3_width := goodIn_r _ [158, 17, 159, 125, 126, 127, 2, 128, 25, 129, 476, 477, 478, 506, 507, 508, 509, 510, 511, 512, 513, 514, 519, 520, 521, 522, 523, 524, 525, 526, 527, 528, 529, 530, 531, 532, 533, 534, 535, 536] (by decide +kernel) (by decide +kernel)
set_option maxRecDepth 20000 in
theorem gL_law_X3_width : GoodIn wsL_law (wsV RL 40 RX3 yX3_width wsX3_width) := goodIn_app (goodIn_of _ (by decide +kernel)) ggL_law_X3_width
set_option maxRecDepth 20000 in
theorem ggL_law_X4_width : GoodIn wsL_law wsX4_width := goodIn_r _ [163, 102, 108, 103, 479, 480, 481, 482, 483, 484, 485, 486, 487, 488, 489, 490, 491, 492, 493, 494, 495, 496, 497, 498, 499, 500, 501, 502, 503, 504, 505] (by decide +kernel) (by decide +kernel)
set_option maxRecDepth 20000 in
theorem gL_law_X4_width : GoodIn wsL_law (wsV RL 44 RX4 yX4_width wsX4_width) := goodIn_app (goodIn_of _ (by decide +kernel)) ggL_law_X4_width
set_option maxRecDepth 20000 in
theorem ggL_law_X3_set : GoodIn wsL_law wsX3_set := goodIn_r _ [167, 17, 168, 21, 169, 170, 171, 125, 126, 127, 2, 128, 25, 129, 172, 173, 174, 130, 131, 132, 476, 477, 478, 506, 507, 508, 509, 510, 511, 512, 513, 514, 515, 516, 517, 518, 519, 520, 521, 522, 523, 524, 525, 526, 527, 528, 529, 530, 531, 532, 533, 534, 535, 536] (by decide +kernel) (by decide +kernel)
set_option maxRecDepth 20000 in
theorem gL_law_X3_set : GoodIn wsL_law (wsV RL 47 RX3 yX3_set wsX3_set) := goodIn_app (goodIn_of _ (by decide +kernel)) ggL_law_X3_set
set_option maxRecDepth 20000 in
theorem ggL_law_X4_set : GoodIn wsL_law wsX4_set := goodIn_r _ [178, 102, 108, 83, 87, 85, 84, 88, 86, 479, 480, 481, 482, 483, 484, 485, 486, 487, 488, 489, 490, 491, 492, 493, 494, 495, 496, 497, 498, 499, 500, 501, 502, 503, 504, 505] (by decide +kernel) (by decide +kernel)
set_option maxRecDepth 20000 in
theorem gL_law_X4_set : GoodIn wsL_law (wsV RL 51 RX4 yX4_set wsX4_set) := goodIn_app (goodIn_of _ (by decide +kernel)) ggL_law_X4_set
set_option maxRecDepth 20000 in
theorem ggL_law_X3_run : GoodIn wsL_law wsX3_run := goodIn_r _ [182, 25, 183, 184, 185, 186, 24, 187, 188, 74, 189, 75, 190, 191, 66, 192, 193, 194, 20, 195, 61, 196, 197, 198, 199, 200, 201, 202, 68, 203, 204, 205, 206, 207, 208, 209, 210, 72, 211, 2, 212, 213, 214, 215, 216, 217, 218, 219, 220, 221, 222, 223, 224, 70, 71, 225, 226, 227, 228, 229, 230, 231, 16, 232, 34, 233, 234, 235, 236, 237, 238, 239, 44, 45, 46, 73, 240, 241, 242, 243, 244, 245, 246, 247, 248, 249, 250, 251, 252, 253, 254, 255, 256, 257, 258, 67, 69, 259, 260, 261, 262, 263, 59, 264, 265, 266, 267, 268, 269, 270, 271, 60, 272, 273, 274, 275, 276, 277, 278, 279, 280, 281, 282, 283, 284, 285, 286, 476, 477, 478, 519, 520, 521, 522, 523, 524, 525, 526, 527, 528, 529, 530, 531, 532, 533, 534, 535, 536, 506, 507, 508, 509, 510, 511, 512, 513, 514, 515, 516, 517, 518] (by decide +kernel) (by decide +kernel)
set_option maxRecDepth 20000 in
theorem gL_law_X3_run : GoodIn wsL_law (wsV RL 52 RX3 yX3_run wsX3_run) := goodIn_app (goodIn_of _ (by decide +kernel)) ggL_law_X3_run
set_option maxRecDepth 20000 in
theorem ggL_law_X4_run : GoodIn wsL_law wsX4_run := goodIn_r _ [290, 102, 109, 108, 112, 115, 96, 93, 291, 292, 293, 5, 294, 80, 111, 295, 296, 297, 298, 299, 300, 301, 114, 302, 303, 304, 305, 110, 113, 103, 306, 307, 308, 309, 310, 311, 312, 81, 313, 314, 315, 316, 90, 317, 318, 319, 320, 321, 322, 323, 89, 82, 92, 85, 324, 97, 94, 91, 86, 325, 326, 327, 328, 329, 330, 331, 332, 333, 334, 335, 336, 88, 87, 337, 338, 339, 340, 341, 342, 343, 344, 345, 346, 347, 479, 480, 481, 482, 483, 484, 485, 486, 487, 488, 489, 490, 491, 492, 493, 494, 495, 496, 497, 498, 499, 500, 501, 502, 503, 504, 505] (by decide +kernel) (by decide +kernel)
set_option maxRecDepth 20000 in
theorem gL_law_X4_run : GoodIn wsL_law (wsV RL 56 RX4 yX4_run wsX4_run) := goodIn_app (goodIn_of _ (by decide +kernel)) ggL_law_X4_run
set_option maxRecDepth 20000 in
theorem ggL_law_X3_again : GoodIn wsL_law wsX3_again := goodIn_r _ [351, 21, 25, 352, 353, 354, 20, 355, 61, 356, 59, 357, 44, 45, 46, 358, 60, 197, 359, 360, 361, 24, 362, 188, 191, 205, 66, 67, 68, 69, 70, 255, 256, 258, 202, 190, 72, 73, 363, 49, 50, 51, 364, 53, 54, 476, 477, 478, 515, 516, 517, 518, 506, 507, 508, 509, 510, 511, 512, 513, 514, 519, 520, 521, 522, 523, 524, 525, 526, 527, 528, 529, 530, 531, 532, 533, 534, 535, 536] (by decide +kernel) (by decide +kernel)
set_option maxRecDepth 20000 in
theorem gL_law_X3_again : GoodIn wsL_law (wsV RL 57 RX3 yX3_again wsX3_again) := goodIn_app (goodIn_of _ (by decide +kernel)) ggL_law_X3_again
set_option maxRecDepth 20000 in
theorem ggL_law_X4_again : GoodIn wsL_law wsX4_again := goodIn_r _ [107, 102, 108, 109, 110, 111, 112, 113, 114, 115, 89, 85, 83, 87, 90, 91, 92, 86, 84, 88, 96, 93, 479, 480, 481, 482, 483, 484, 485, 486, 487, 488, 489, 490, 491, 492, 493, 494, 495, 496, 497, 498, 499, 500, 501, 502, 503, 504, 505] (by decide +kernel) (by decide +kernel)
set_option maxRecDepth 20000 in
theorem gL_law_X4_again : GoodIn wsL_law (wsV RL 60 RX4 yX4_again wsX4_again) := goodIn_app (goodIn_of _ (by decide +kernel)) ggL_law_X4_again
set_option maxRecDepth 20000 in
theorem ggL_law_X3_clear : GoodIn wsL_law wsX3_clear := goodIn_r _ [369, 17, 21, 25, 370, 40, 41, 16, 42, 31, 32, 33, 34, 35, 36, 43, 44, 45, 46, 37, 38, 47, 48, 49, 50, 51, 52, 53, 54, 352, 353, 354, 20, 355, 61, 356, 59, 357, 358, 60, 197, 359, 360, 361, 24, 362, 188, 191, 205, 66, 67, 68, 69, 70, 255, 256, 258, 202, 190, 72, 73, 363, 364, 476, 477, 478, 506, 507, 508, 509, 510, 511, 512, 513, 514, 515, 516, 517, 518, 519, 520, 521, 522, 523, 524, 525, 526, 527, 528, 529, 530, 531, 532, 533, 534, 535, 536] (by decide +kernel) (by decide +kernel)
set_option maxRecDepth 20000 in
theorem gL_law_X3_clear : GoodIn wsL_law (wsV RL 61 RX3 yX3_clear wsX3_clear) := goodIn_app (goodIn_of _ (by decide +kernel)) ggL_law_X3_clear
set_option maxRecDepth 20000 in
theorem ggL_law_X4_clear : GoodIn wsL_law wsX4_clear := goodIn_r _ [101, 102, 80, 81, 82, 103, 83, 84, 104, 105, 106, 5, 107, 108, 109, 110, 111, 112, 113, 114, 115, 89, 85, 87, 90, 91, 92, 86, 88, 96, 93, 479, 480, 481, 482, 483, 484, 485, 486, 487, 488, 489, 490, 491, 492, 493, 494, 495, 496, 497, 498, 499, 500, 501, 502, 503, 504, 505] (by decide +kernel) (by decide +kernel)
set_option maxRecDepth 20000 in
theorem gL_law_X4_clear : GoodIn wsL_law (wsV RL 64 RX4 yX4_clear wsX4_clear) := goodIn_app (goodIn_of _ (by decide +kernel)) ggL_law_X4_clear
set_option maxRecDepth 20000 in
theorem ggL_law_X3_count : GoodIn wsL_law wsX3_count := goodIn_r _ [375, 25, 129, 183, 376, 377, 378, 21, 379, 380, 381, 382, 24, 383, 72, 188, 476, 477, 478, 519, 520, 521, 522, 523, 524, 525, 526, 527, 528, 529, 530, 531, 532, 533, 534, 535, 536, 515, 516, 517, 518] (by decide +kernel) (by decide +kernel)
set_option maxRecDepth 20000 in
theorem gL_law_X3_count : GoodIn wsL_law (wsV RL 65 RX3 yX3_count wsX3_count) := goodIn_app (goodIn_of _ (by decide +kernel)) ggL_law_X3_count
set_option maxRecDepth 20000 in
theorem ggL_law_X4_count : GoodIn wsL_law wsX4_count := goodIn_r _ [387, 102, 108, 109, 110, 89, 114, 111, 388, 389, 390, 5, 391, 96, 291, 292, 293, 294, 80, 329, 330, 331, 332, 302, 303, 304, 305, 113, 103, 112, 306, 307, 308, 309, 310, 311, 312, 93, 81, 295, 296, 297, 313, 314, 315, 316, 90, 317, 318, 319, 479, 480, 481, 482, 483, 484, 485, 486, 487, 488, 489, 490, 491, 492, 493, 494, 495, 496, 497, 498, 499, 500, 501, 502, 503, 504, 505] (by decide +kernel) (by decide +kernel)
set_option maxRecDepth 20000 in
theorem gL_law_X4_count : GoodIn wsL_law (wsV RL 68 RX4 yX4_count wsX4_count) := goodIn_app (goodIn_of _ (by decide +kernel)) ggL_law_X4_count
set_option maxRecDepth 20000 in
theorem ggL_law_L_register : GoodIn wsL_law wsL_register := goodIn_ca (goodIn_r _ [395, 396, 397, 398, 399, 2, 400, 401, 402, 25, 130, 131, 132, 403, 404, 405, 24, 406, 68, 188, 69, 75, 259, 476, 477, 478, 519, 520, 521, 522, 523, 524, 525, 526, 527, 528, 529, 530, 531, 532, 533, 534, 535, 536, 515, 516, 517, 518] (by decide +kernel) (by decide +kernel)) (goodIn_sub (fun _ h => List.mem_append_right _ h) (by decide +kernel))
set_option maxRecDepth 20000 in
theorem gL_law_L_register : GoodIn wsL_law (va_wsS RL 69 yL_register wsL_register) := goodIn_app (goodIn_of _ (by decide +kernel)) ggL_law_L_register
set_option maxRecDepth 20000 in
theorem ggL_law_X4_register : GoodIn wsL_law wsX4_register := goodIn_r _ [410, 102, 87, 479, 480, 481, 482, 483, 484, 485, 486, 487, 488, 489, 490, 491, 492, 493, 494, 495, 496, 497, 498, 499, 500, 501, 502, 503, 504, 505] (by decide +kernel) (by decide +kernel)
set_option maxRecDepth 20000 in
theorem gL_law_X4_register : GoodIn wsL_law (wsV RL 74 RX4 yX4_register wsX4_register) := goodIn_app (goodIn_of _ (by decide +kernel)) ggL_law_X4_register
set_option maxRecDepth 20000 in
theorem ggL_law_X4_thrown : GoodIn wsL_law wsX4_thrown := goodIn_r _ [414, 102, 479, 480, 481, 482, 483, 484, 485, 486, 487, 488, 489, 490, 491, 492, 493, 494, 495, 496, 497, 498, 499, 500, 501, 502, 503, 504, 505] (by decide +kernel) (by decide +kernel)
set_option maxRecDepth 20000 in
theorem gL_law_X4_thrown : GoodIn wsL_law (wsV RL 75 RX4 yX4_thrown wsX4_thrown) := goodIn_app (goodIn_of _ (by decide +kernel)) ggL_law_X4_thrown
set_option maxRecDepth 20000 in
theorem ggL_law_L_memory : GoodIn wsL_law wsL_memory := goodIn_ca (goodIn_r _ [417, 396, 418, 419, 420, 2, 421, 401, 402, 25, 130, 131, 132, 422, 423, 424, 24, 425, 255, 256, 188, 258, 75, 257, 476, 477, 478, 519, 520, 521, 522, 523, 524, 525, 526, 527, 528, 529, 530, 531, 532, 533, 534, 535, 536, 515, 516, 517, 518] (by decide +kernel) (by decide +kernel)) (goodIn_sub (fun _ h => List.mem_append_right _ h) (by decide +kernel))
set_option maxRecDepth 20000 in
theorem gL_law_L_memory : GoodIn wsL_law (va_wsS RL 79 yL_memory wsL_memory) := goodIn_app (goodIn_of _ (by decide +kernel)) ggL_law_L_memory
set_option maxRecDepth 20000 in
theorem ggL_law_X4_memory : GoodIn wsL_law wsX4_memory := goodIn_r _ [429, 102, 88, 479, 480, 481, 482, 483, 484, 485, 486, 487, 488, 489, 490, 491, 492, 493, 494, 495, 496, 497, 498, 499, 500, 501, 502, 503, 504, 505] (by decide +kernel) (by decide +kernel)
set_option maxRecDepth 20000 in
theorem gL_law_X4_memory : GoodIn wsL_law (wsV RL 81 RX4 yX4_memory wsX4_memory) := goodIn_app (goodIn_of _ (by decide +kernel)) ggL_law_X4_memory
set_option maxRecDepth 20000 in
theorem ggL_law_L_plain : GoodIn wsL_law wsL_plain := goodIn_ca (goodIn_r _ [432, 396, 433, 434, 435, 2, 436, 401, 402, 21, 169, 171, 172, 173, 174, 130, 131, 132, 476, 477, 478, 515, 516, 517, 518] (by decide +kernel) (by decide +kernel)) (goodIn_sub (fun _ h => List.mem_append_right _ h) (by decide +kernel))
set_option maxRecDepth 20000 in
theorem gL_law_L_plain : GoodIn wsL_law (va_wsS RL 82 yL_plain wsL_plain) := goodIn_app (goodIn_of _ (by decide +kernel)) ggL_law_L_plain
set_option maxRecDepth 20000 in
theorem ggL_law_X4_plain : GoodIn wsL_law wsX4_plain := goodIn_r _ [440, 102, 85, 86, 479, 480, 481, 482, 483, 484, 485, 486, 487, 488, 489, 490, 491, 492, 493, 494, 495, 496, 497, 498, 499, 500, 501, 502, 503, 504, 505] (by decide +kernel) (by decide +kernel)
set_option maxRecDepth 20000 in
theorem gL_law_X4_plain : GoodIn wsL_law (wsV RL 85 RX4 yX4_plain wsX4_plain) := goodIn_app (goodIn_of _ (by decide +kernel)) ggL_law_X4_plain
set_option maxRecDepth 20000 in
theorem ggL_law_X3_unit : GoodIn wsL_law wsX3_unit := goodIn_r _ [444, 17, 141, 25, 130, 131, 2, 132, 445, 211, 212, 446, 447, 448, 24, 449, 72, 188, 476, 477, 478, 506, 507, 508, 509, 510, 511, 512, 513, 514, 519, 520, 521, 522, 523, 524, 525, 526, 527, 528, 529, 530, 531, 532, 533, 534, 535, 536] (by decide +kernel) (by decide +kernel)
set_option maxRecDepth 20000 in
theorem gL_law_X3_unit : GoodIn wsL_law (wsV RL 86 RX3 yX3_unit wsX3_unit) := goodIn_app (goodIn_of _ (by decide +kernel)) ggL_law_X3_unit
set_option maxRecDepth 20000 in
theorem ggL_law_X4_unit : GoodIn wsL_law wsX4_unit := goodIn_r _ [453, 102, 81, 96, 93, 108, 479, 480, 481, 482, 483, 484, 485, 486, 487, 488, 489, 490, 491, 492, 493, 494, 495, 496, 497, 498, 499, 500, 501, 502, 503, 504, 505] (by decide +kernel) (by decide +kernel)
set_option maxRecDepth 20000 in
theorem gL_law_X4_unit : GoodIn wsL_law (wsV RL 90 RX4 yX4_unit wsX4_unit) := goodIn_app (goodIn_of _ (by decide +kernel)) ggL_law_X4_unit
set_option maxRecDepth 20000 in
theorem ggL_law_X3_pending : GoodIn wsL_law wsX3_pending := goodIn_r _ [457, 25, 458, 129, 459, 130, 131, 2, 132, 476, 477, 478, 519, 520, 521, 522, 523, 524, 525, 526, 527, 528, 529, 530, 531, 532, 533, 534, 535, 536] (by decide +kernel) (by decide +kernel)
set_option maxRecDepth 20000 in
theorem gL_law_X3_pending : GoodIn wsL_law (wsV RL 91 RX3 yX3_pending wsX3_pending) := goodIn_app (goodIn_of _ (by decide +kernel)) ggL_law_X3_pending
set_option maxRecDepth 20000 in
theorem ggL_law_X4_pending : GoodIn wsL_law wsX4_pending := goodIn_r _ [463, 102, 90, 108, 91, 479, 480, 481, 482, 483, 484, 485, 486, 487, 488, 489, 490, 491, 492, 493, 494, 495, 496, 497, 498, 499, 500, 501, 502, 503, 504, 505] (by decide +kernel) (by decide +kernel)
set_option maxRecDepth 20000 in
theorem gL_law_X4_pending : GoodIn wsL_law (wsV RL 94 RX4 yX4_pending wsX4_pending) := goodIn_app (goodIn_of _ (by decide +kernel)) ggL_law_X4_pending
set_option maxRecDepth 20000 in
theorem ggL_law_X3_latest : GoodIn wsL_law wsX3_latest := goodIn_r _ [467, 25, 376, 130, 131, 2, 132, 468, 469, 470, 24, 471, 73, 188, 240, 241, 242, 476, 477, 478, 519, 520, 521, 522, 523, 524, 525, 526, 527, 528, 529, 530, 531, 532, 533, 534, 535, 536] (by decide +kernel) (by decide +kernel)
set_option maxRecDepth 20000 in
theorem gL_law_X3_latest : GoodIn wsL_law (wsV RL 95 RX3 yX3_latest wsX3_latest) := goodIn_app (goodIn_of _ (by decide +kernel)) ggL_law_X3_latest
set_option maxRecDepth 20000 in
theorem ggL_law_X4_latest : GoodIn wsL_law wsX4_latest := goodIn_r _ [475, 102, 110, 97, 108, 479, 480, 481, 482, 483, 484, 485, 486, 487, 488, 489, 490, 491, 492, 493, 494, 495, 496, 497, 498, 499, 500, 501, 502, 503, 504, 505] (by decide +kernel) (by decide +kernel)
set_option maxRecDepth 20000 in
theorem gL_law_X4_latest : GoodIn wsL_law (wsV RL 99 RX4 yX4_latest wsX4_latest) := goodIn_app (goodIn_of _ (by decide +kernel)) ggL_law_X4_latest
