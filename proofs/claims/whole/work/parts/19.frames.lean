theorem e_J6_bitCount_0f7a4 {sa : Nat → Nat} {G : Hp} {x0 : Int32} : f_J6_bitCount_0f7a4 sa [.int x0] G = mrunL (some .int) (b_J6_bitCount_0f7a4 sa) [some (.int x0)] G := rfl
theorem e_X1_hasNumber {sa : Nat → Nat} {G : Hp} {b0 : Nat} : f_X1_hasNumber sa [.ref b0] G = mrunL (some .boolean) (b_X1_hasNumber sa) [some (.ref b0)] G := rfl
theorem e_X1_placeBehind {sa : Nat → Nat} {G : Hp} {b0 : Nat} : f_X1_placeBehind sa [.ref b0] G = mrunL (some .int) (b_X1_placeBehind sa) [some (.ref b0)] G := rfl
theorem e_X2_makesFields {sa : Nat → Nat} {G : Hp} {b0 : Nat} : f_X2_makesFields sa [.ref b0] G = mrunL (some .boolean) (b_X2_makesFields sa) [some (.ref b0)] G := rfl
theorem e_X2_makesValues {sa : Nat → Nat} {G : Hp} {b0 : Nat} : f_X2_makesValues sa [.ref b0] G = mrunL (some .boolean) (b_X2_makesValues sa) [some (.ref b0)] G := rfl
theorem e_X2_tellFault {sa : Nat → Nat} {G : Hp} {b0 : Nat} {x0 : Int32} {x1 : Int32} : f_X2_tellFault sa [.ref b0, .int x0, .int x1] G = mrunL none (b_X2_tellFault sa) [some (.ref b0), some (.int x0), some (.int x1)] G := rfl
theorem e_X2_wayOfItem {sa : Nat → Nat} {G : Hp} {b0 : Nat} : f_X2_wayOfItem sa [.ref b0] G = mrunL (some .int) (b_X2_wayOfItem sa) [some (.ref b0)] G := rfl
theorem e_X3_add {sa : Nat → Nat} {G : Hp} {b0 : Nat} {x0 : Int32} : f_X3_add sa [.ref b0, .int x0] G = mrunL none (b_X3_add sa) [some (.ref b0), some (.int x0)] G := rfl
theorem e_X3_at {sa : Nat → Nat} {G : Hp} {b0 : Nat} {x0 : Int32} : f_X3_at sa [.ref b0, .int x0] G = mrunL (some .int) (b_X3_at sa) [some (.ref b0), some (.int x0)] G := rfl
theorem e_X3_clear {sa : Nat → Nat} {G : Hp} {b0 : Nat} : f_X3_clear sa [.ref b0] G = mrunL none (b_X3_clear sa) [some (.ref b0)] G := rfl
theorem e_X3_size {sa : Nat → Nat} {G : Hp} {b0 : Nat} : f_X3_size sa [.ref b0] G = mrunL (some .int) (b_X3_size sa) [some (.ref b0)] G := rfl
theorem e_X5_at {sa : Nat → Nat} {G : Hp} {b0 : Nat} {x0 : Int32} {x1 : Int32} : f_X5_at sa [.ref b0, .int x0, .int x1] G = mrunL (some .int) (b_X5_at sa) [some (.ref b0), some (.int x0), some (.int x1), none] G := rfl
theorem e_X5_clear {sa : Nat → Nat} {G : Hp} {b0 : Nat} : f_X5_clear sa [.ref b0] G = mrunL none (b_X5_clear sa) [some (.ref b0)] G := rfl
theorem e_X5_dropLast {sa : Nat → Nat} {G : Hp} {b0 : Nat} : f_X5_dropLast sa [.ref b0] G = mrunL none (b_X5_dropLast sa) [some (.ref b0)] G := rfl
theorem e_X5_has {sa : Nat → Nat} {G : Hp} {b0 : Nat} {x0 : Int32} : f_X5_has sa [.ref b0, .int x0] G = mrunL (some .boolean) (b_X5_has sa) [some (.ref b0), some (.int x0)] G := rfl
theorem e_X5_rows {sa : Nat → Nat} {G : Hp} {b0 : Nat} : f_X5_rows sa [.ref b0] G = mrunL (some .int) (b_X5_rows sa) [some (.ref b0)] G := rfl
theorem e_X5_set {sa : Nat → Nat} {G : Hp} {b0 : Nat} {x0 : Int32} {x1 : Int32} {x2 : Int32} : f_X5_set sa [.ref b0, .int x0, .int x1, .int x2] G = mrunL none (b_X5_set sa) [some (.ref b0), some (.int x0), some (.int x1), some (.int x2), none] G := rfl
theorem e_X6_figure {sa : Nat → Nat} {G : Hp} {x0 : Int64} {x1 : Int32} : f_X6_figure sa [.long x0, .int x1] G = mrunL (some .int) (b_X6_figure sa) [some (.long x0), none, some (.int x1), none, none, none] G := rfl
theorem e_X6_figures {sa : Nat → Nat} {G : Hp} {x0 : Int64} : f_X6_figures sa [.long x0] G = mrunL (some .int) (b_X6_figures sa) [some (.long x0), none, none, none, none] G := rfl
theorem e_X6_numberOf {sa : Nat → Nat} {G : Hp} {x0 : Nat} : f_X6_numberOf sa [.ref x0] G = mrunL (some .long) (b_X6_numberOf sa) [some (.ref x0), none] G := rfl
theorem e_X6_numberWord {sa : Nat → Nat} {G : Hp} {x0 : Int32} : f_X6_numberWord sa [.int x0] G = mrunL (some (.object "java/lang/String")) (b_X6_numberWord sa) [some (.int x0)] G := rfl
theorem e_X6_shapeWord {sa : Nat → Nat} {G : Hp} {x0 : Int32} : f_X6_shapeWord sa [.int x0] G = mrunL (some (.object "java/lang/String")) (b_X6_shapeWord sa) [some (.int x0)] G := rfl
theorem e_X6_useWord {sa : Nat → Nat} {G : Hp} {x0 : Int32} : f_X6_useWord sa [.int x0] G = mrunL (some (.object "java/lang/String")) (b_X6_useWord sa) [some (.int x0)] G := rfl
theorem e_X7_bytesFor {sa : Nat → Nat} {G : Hp} {x0 : Int32} : f_X7_bytesFor sa [.int x0] G = mrunL (some .int) (b_X7_bytesFor sa) [some (.int x0)] G := rfl
theorem e_X7_imageOf {sa : Nat → Nat} {G : Hp} {b0 : Nat} {x0 : Int32} : f_X7_imageOf sa [.ref b0, .int x0] G = mrunL (some (.object "ShapeReports$Device")) (b_X7_imageOf sa) [some (.ref b0), some (.int x0)] G := rfl
theorem e_X7_isWithin {sa : Nat → Nat} {G : Hp} {x0 : Int32} {x1 : Int32} {x2 : Int32} : f_X7_isWithin sa [.int x0, .int x1, .int x2] G = mrunL (some .boolean) (b_X7_isWithin sa) [some (.int x0), some (.int x1), some (.int x2)] G := rfl
theorem e_X8_beginGroup {sa : Nat → Nat} {G : Hp} {b0 : Nat} : f_X8_beginGroup sa [.ref b0] G = mrunL (some .int) (b_X8_beginGroup sa) [some (.ref b0)] G := rfl
theorem e_X8_bitOfLetter {sa : Nat → Nat} {G : Hp} {b0 : Nat} {x0 : Int32} : f_X8_bitOfLetter sa [.ref b0, .int x0] G = mrunL (some .int) (b_X8_bitOfLetter sa) [some (.ref b0), some (.int x0)] G := rfl
theorem e_X8_buildField {sa : Nat → Nat} {G : Hp} {b0 : Nat} {x0 : Int32} {x1 : Int32} {x2 : Int32} : f_X8_buildField sa [.ref b0, .int x0, .int x1, .int x2] G = mrunL none (b_X8_buildField sa) [some (.ref b0), some (.int x0), some (.int x1), some (.int x2), none, none] G := rfl
theorem e_X8_buildSlots {sa : Nat → Nat} {G : Hp} {b0 : Nat} : f_X8_buildSlots sa [.ref b0] G = mrunL none (b_X8_buildSlots sa) [some (.ref b0), none] G := rfl
theorem e_X8_byteAt {sa : Nat → Nat} {G : Hp} {b0 : Nat} {x0 : Int32} : f_X8_byteAt sa [.ref b0, .int x0] G = mrunL (some .int) (b_X8_byteAt sa) [some (.ref b0), some (.int x0)] G := rfl
theorem e_X8_count {sa : Nat → Nat} {G : Hp} {b0 : Nat} {x0 : Int32} : f_X8_count sa [.ref b0, .int x0] G = mrunL (some .int) (b_X8_count sa) [some (.ref b0), some (.int x0)] G := rfl
theorem e_X8_endGroup {sa : Nat → Nat} {G : Hp} {b0 : Nat} : f_X8_endGroup sa [.ref b0] G = mrunL (some .int) (b_X8_endGroup sa) [some (.ref b0)] G := rfl
theorem e_X8_has {sa : Nat → Nat} {G : Hp} {x0 : Int32} {x1 : Int32} : f_X8_has sa [.int x0, .int x1] G = mrunL (some .boolean) (b_X8_has sa) [some (.int x0), some (.int x1)] G := rfl
theorem e_X8_in {sa : Nat → Nat} {G : Hp} {x0 : Int32} {x1 : Int32} {x2 : Int32} : f_X8_in sa [.int x0, .int x1, .int x2] G = mrunL (some .boolean) (b_X8_in sa) [some (.int x0), some (.int x1), some (.int x2)] G := rfl
theorem e_X8_isLetter {sa : Nat → Nat} {G : Hp} {b0 : Nat} : f_X8_isLetter sa [.ref b0] G = mrunL (some .boolean) (b_X8_isLetter sa) [some (.ref b0), none, none] G := rfl
theorem e_X8_isWithin {sa : Nat → Nat} {G : Hp} {b0 : Nat} {x0 : Int32} {x1 : Int32} : f_X8_isWithin sa [.ref b0, .int x0, .int x1] G = mrunL (some .boolean) (b_X8_isWithin sa) [some (.ref b0), some (.int x0), some (.int x1), none] G := rfl
theorem e_X8_next {sa : Nat → Nat} {G : Hp} {b0 : Nat} : f_X8_next sa [.ref b0] G = mrunL (some .int) (b_X8_next sa) [some (.ref b0), none] G := rfl
theorem e_X8_of {sa : Nat → Nat} {G : Hp} {b0 : Nat} {x0 : Int32} {x1 : Int32} : f_X8_of sa [.ref b0, .int x0, .int x1] G = mrunL (some .int) (b_X8_of sa) [some (.ref b0), some (.int x0), some (.int x1)] G := rfl
theorem e_X8_pop {sa : Nat → Nat} {G : Hp} {b0 : Nat} : f_X8_pop sa [.ref b0] G = mrunL (some .int) (b_X8_pop sa) [some (.ref b0), none] G := rfl
theorem e_X8_push {sa : Nat → Nat} {G : Hp} {b0 : Nat} : f_X8_push sa [.ref b0] G = mrunL (some .int) (b_X8_push sa) [some (.ref b0), none] G := rfl
theorem e_X8_tell {sa : Nat → Nat} {G : Hp} {b0 : Nat} {x0 : Int32} {x1 : Int32} {x2 : Int32} : f_X8_tell sa [.ref b0, .int x0, .int x1, .int x2] G = mrunL none (b_X8_tell sa) [some (.ref b0), some (.int x0), some (.int x1), some (.int x2), none] G := rfl
theorem e_X8_tellUses {sa : Nat → Nat} {G : Hp} {b0 : Nat} : f_X8_tellUses sa [.ref b0] G = mrunL (some .int) (b_X8_tellUses sa) [some (.ref b0), none, none] G := rfl
theorem e_X8_useAt {sa : Nat → Nat} {G : Hp} {b0 : Nat} {x0 : Int32} {x1 : Int32} : f_X8_useAt sa [.ref b0, .int x0, .int x1] G = mrunL (some .int) (b_X8_useAt sa) [some (.ref b0), some (.int x0), some (.int x1)] G := rfl
theorem e_X8_wipe {sa : Nat → Nat} {G : Hp} {b0 : Nat} : f_X8_wipe sa [.ref b0] G = mrunL (some .int) (b_X8_wipe sa) [some (.ref b0), none] G := rfl
theorem e_X8_write {sa : Nat → Nat} {G : Hp} {b0 : Nat} {x0 : Int32} {x1 : Int32} {x2 : Int32} {x3 : Int32} {x4 : Int32} : f_X8_write sa [.ref b0, .int x0, .int x1, .int x2, .int x3, .int x4] G = mrunL none (b_X8_write sa) [some (.ref b0), some (.int x0), some (.int x1), some (.int x2), some (.int x3), some (.int x4), none, none] G := rfl
theorem e_X2_faultOfNumberItem {sa : Nat → Nat} {G : Hp} {b0 : Nat} : f_X2_faultOfNumberItem sa [.ref b0] G = mrunL (some .int) (b_X2_faultOfNumberItem sa) [some (.ref b0)] G := rfl
theorem e_X2_forgetUses {sa : Nat → Nat} {G : Hp} {b0 : Nat} : f_X2_forgetUses sa [.ref b0] G = mrunL none (b_X2_forgetUses sa) [some (.ref b0)] G := rfl
theorem e_X2_moreUses {sa : Nat → Nat} {G : Hp} {b0 : Nat} : f_X2_moreUses sa [.ref b0] G = mrunL (some .long) (b_X2_moreUses sa) [some (.ref b0)] G := rfl
theorem e_X2_popNumbers {sa : Nat → Nat} {G : Hp} {b0 : Nat} : f_X2_popNumbers sa [.ref b0] G = mrunL none (b_X2_popNumbers sa) [some (.ref b0), none] G := rfl
theorem e_X2_setCommon {sa : Nat → Nat} {G : Hp} {b0 : Nat} {x0 : Int32} : f_X2_setCommon sa [.ref b0, .int x0] G = mrunL none (b_X2_setCommon sa) [some (.ref b0), some (.int x0)] G := rfl
theorem e_X2_setSlot {sa : Nat → Nat} {G : Hp} {b0 : Nat} {x0 : Int32} : f_X2_setSlot sa [.ref b0, .int x0] G = mrunL none (b_X2_setSlot sa) [some (.ref b0), some (.int x0)] G := rfl
theorem e_X2_setValue {sa : Nat → Nat} {G : Hp} {b0 : Nat} {x0 : Int32} {x1 : Int32} : f_X2_setValue sa [.ref b0, .int x0, .int x1] G = mrunL none (b_X2_setValue sa) [some (.ref b0), some (.int x0), some (.int x1)] G := rfl
theorem e_X3_copyFrom {sa : Nat → Nat} {G : Hp} {b0 : Nat} {x0 : Nat} : f_X3_copyFrom sa [.ref b0, .ref x0] G = mrunL none (b_X3_copyFrom sa) [some (.ref b0), some (.ref x0), none] G := rfl
theorem e_X4_addSlotUses {sa : Nat → Nat} {G : Hp} {b0 : Nat} {x0 : Nat} : f_X4_addSlotUses sa [.ref b0, .ref x0] G = mrunL none (b_X4_addSlotUses sa) [some (.ref b0), some (.ref x0), none] G := rfl
theorem e_X4_bitsOf {sa : Nat → Nat} {G : Hp} {b0 : Nat} {x0 : Int32} {x1 : Int32} : f_X4_bitsOf sa [.ref b0, .int x0, .int x1] G = mrunL (some .int) (b_X4_bitsOf sa) [some (.ref b0), some (.int x0), some (.int x1)] G := rfl
theorem e_X4_hasIdZero {sa : Nat → Nat} {G : Hp} {b0 : Nat} : f_X4_hasIdZero sa [.ref b0] G = mrunL (some .boolean) (b_X4_hasIdZero sa) [some (.ref b0), none] G := rfl
theorem e_X4_hasOtherIds {sa : Nat → Nat} {G : Hp} {b0 : Nat} : f_X4_hasOtherIds sa [.ref b0] G = mrunL (some .boolean) (b_X4_hasOtherIds sa) [some (.ref b0), none] G := rfl
theorem e_X4_isInGroup {sa : Nat → Nat} {G : Hp} {b0 : Nat} {x0 : Int32} {x1 : Int32} : f_X4_isInGroup sa [.ref b0, .int x0, .int x1] G = mrunL (some .boolean) (b_X4_isInGroup sa) [some (.ref b0), some (.int x0), some (.int x1), none, none] G := rfl
theorem e_X4_isInRange {sa : Nat → Nat} {G : Hp} {b0 : Nat} {x0 : Int32} {x1 : Int32} : f_X4_isInRange sa [.ref b0, .int x0, .int x1] G = mrunL (some .boolean) (b_X4_isInRange sa) [some (.ref b0), some (.int x0), some (.int x1)] G := rfl
theorem e_X4_isOfLetter {sa : Nat → Nat} {G : Hp} {b0 : Nat} {x0 : Int32} {x1 : Int32} {x2 : Int32} : f_X4_isOfLetter sa [.ref b0, .int x0, .int x1, .int x2] G = mrunL (some .boolean) (b_X4_isOfLetter sa) [some (.ref b0), some (.int x0), some (.int x1), some (.int x2)] G := rfl
theorem e_X4_lengthen {sa : Nat → Nat} {G : Hp} {b0 : Nat} {x0 : Int32} {x1 : Int32} {x2 : Int32} : f_X4_lengthen sa [.ref b0, .int x0, .int x1, .int x2] G = mrunL none (b_X4_lengthen sa) [some (.ref b0), some (.int x0), some (.int x1), some (.int x2)] G := rfl
theorem e_X4_slotUse {sa : Nat → Nat} {G : Hp} {b0 : Nat} {x0 : Int32} {x1 : Int32} : f_X4_slotUse sa [.ref b0, .int x0, .int x1] G = mrunL (some .int) (b_X4_slotUse sa) [some (.ref b0), some (.int x0), some (.int x1)] G := rfl
theorem e_X4_wantedPart {sa : Nat → Nat} {G : Hp} {b0 : Nat} {x0 : Int32} {x1 : Int32} : f_X4_wantedPart sa [.ref b0, .int x0, .int x1] G = mrunL (some .int) (b_X4_wantedPart sa) [some (.ref b0), some (.int x0), some (.int x1), none, none, none] G := rfl
theorem e_X5_addRow {sa : Nat → Nat} {G : Hp} {b0 : Nat} : f_X5_addRow sa [.ref b0] G = mrunL (some .int) (b_X5_addRow sa) [some (.ref b0), none] G := rfl
theorem e_X5_copyFrom {sa : Nat → Nat} {G : Hp} {b0 : Nat} {x0 : Nat} : f_X5_copyFrom sa [.ref b0, .ref x0] G = mrunL none (b_X5_copyFrom sa) [some (.ref b0), some (.ref x0), none] G := rfl
theorem e_X5_dropFirst {sa : Nat → Nat} {G : Hp} {b0 : Nat} : f_X5_dropFirst sa [.ref b0] G = mrunL none (b_X5_dropFirst sa) [some (.ref b0), none] G := rfl
theorem e_X6_word {sa : Nat → Nat} {G : Hp} {x0 : Nat} : f_X6_word sa [.ref x0] G = mrunL (some (.object "java/lang/String")) (b_X6_word sa) [some (.ref x0)] G := rfl
theorem e_X7_count {sa : Nat → Nat} {G : Hp} {b0 : Nat} {x0 : Int32} : f_X7_count sa [.ref b0, .int x0] G = mrunL (some .int) (b_X7_count sa) [some (.ref b0), some (.int x0)] G := rfl
theorem e_X7_event {sa : Nat → Nat} {G : Hp} {b0 : Nat} {x0 : Int32} : f_X7_event sa [.ref b0, .int x0] G = mrunL (some .int) (b_X7_event sa) [some (.ref b0), some (.int x0)] G := rfl
theorem e_X7_field {sa : Nat → Nat} {G : Hp} {b0 : Nat} {x0 : Int32} {x1 : Int32} : f_X7_field sa [.ref b0, .int x0, .int x1] G = mrunL (some .int) (b_X7_field sa) [some (.ref b0), some (.int x0), some (.int x1)] G := rfl
theorem e_X7_item {sa : Nat → Nat} {G : Hp} {b0 : Nat} {x0 : Int32} {x1 : Int32} {x2 : Int32} : f_X7_item sa [.ref b0, .int x0, .int x1, .int x2] G = mrunL (some .int) (b_X7_item sa) [some (.ref b0), some (.int x0), some (.int x1), some (.int x2), none] G := rfl
theorem e_X7_last {sa : Nat → Nat} {G : Hp} {b0 : Nat} {x0 : Int32} : f_X7_last sa [.ref b0, .int x0] G = mrunL (some .int) (b_X7_last sa) [some (.ref b0), some (.int x0), none] G := rfl
theorem e_X7_put {sa : Nat → Nat} {G : Hp} {b0 : Nat} {x0 : Int32} : f_X7_put sa [.ref b0, .int x0] G = mrunL (some .int) (b_X7_put sa) [some (.ref b0), some (.int x0)] G := rfl
theorem e_X7_say {sa : Nat → Nat} {G : Hp} {b0 : Nat} {x0 : Int32} : f_X7_say sa [.ref b0, .int x0] G = mrunL (some .int) (b_X7_say sa) [some (.ref b0), some (.int x0)] G := rfl
theorem e_X7_signed {sa : Nat → Nat} {G : Hp} {x0 : Int32} {x1 : Int32} : f_X7_signed sa [.int x0, .int x1] G = mrunL (some .int) (b_X7_signed sa) [some (.int x0), some (.int x1), none] G := rfl
theorem e_X7_wipe {sa : Nat → Nat} {G : Hp} {b0 : Nat} : f_X7_wipe sa [.ref b0] G = mrunL (some .int) (b_X7_wipe sa) [some (.ref b0), none] G := rfl
theorem e_X8_bitToDevice {sa : Nat → Nat} {G : Hp} {b0 : Nat} {x0 : Int32} {x1 : Int32} {x2 : Int32} : f_X8_bitToDevice sa [.ref b0, .int x0, .int x1, .int x2] G = mrunL (some .int) (b_X8_bitToDevice sa) [some (.ref b0), some (.int x0), some (.int x1), some (.int x2), none, none, none] G := rfl
theorem e_X8_event {sa : Nat → Nat} {G : Hp} {b0 : Nat} {x0 : Int32} : f_X8_event sa [.ref b0, .int x0] G = mrunL (some .int) (b_X8_event sa) [some (.ref b0), some (.int x0)] G := rfl
theorem e_X8_firstPlace {sa : Nat → Nat} {G : Hp} {b0 : Nat} {x0 : Int32} {x1 : Int32} : f_X8_firstPlace sa [.ref b0, .int x0, .int x1] G = mrunL (some .int) (b_X8_firstPlace sa) [some (.ref b0), some (.int x0), some (.int x1), none] G := rfl
theorem e_X8_group {sa : Nat → Nat} {G : Hp} {b0 : Nat} {x0 : Int32} {x1 : Int32} : f_X8_group sa [.ref b0, .int x0, .int x1] G = mrunL (some .int) (b_X8_group sa) [some (.ref b0), some (.int x0), some (.int x1), none, none] G := rfl
theorem e_X8_image {sa : Nat → Nat} {G : Hp} {b0 : Nat} {x0 : Int32} : f_X8_image sa [.ref b0, .int x0] G = mrunL (some .int) (b_X8_image sa) [some (.ref b0), some (.int x0), none] G := rfl
theorem e_X8_isField {sa : Nat → Nat} {G : Hp} {b0 : Nat} {x0 : Int32} : f_X8_isField sa [.ref b0, .int x0] G = mrunL (some .boolean) (b_X8_isField sa) [some (.ref b0), some (.int x0)] G := rfl
theorem e_X8_isInRange {sa : Nat → Nat} {G : Hp} {b0 : Nat} {x0 : Int32} {x1 : Int32} : f_X8_isInRange sa [.ref b0, .int x0, .int x1] G = mrunL (some .boolean) (b_X8_isInRange sa) [some (.ref b0), some (.int x0), some (.int x1)] G := rfl
theorem e_X8_isWhole {sa : Nat → Nat} {G : Hp} {b0 : Nat} {x0 : Int32} : f_X8_isWhole sa [.ref b0, .int x0] G = mrunL (some .boolean) (b_X8_isWhole sa) [some (.ref b0), some (.int x0), none, none] G := rfl
theorem e_X8_item {sa : Nat → Nat} {G : Hp} {b0 : Nat} {x0 : Int32} {x1 : Int32} {x2 : Int32} : f_X8_item sa [.ref b0, .int x0, .int x1, .int x2] G = mrunL (some .int) (b_X8_item sa) [some (.ref b0), some (.int x0), some (.int x1), some (.int x2), none, none, none] G := rfl
theorem e_X8_length {sa : Nat → Nat} {G : Hp} {b0 : Nat} {x0 : Int32} {x1 : Int32} : f_X8_length sa [.ref b0, .int x0, .int x1] G = mrunL (some .int) (b_X8_length sa) [some (.ref b0), some (.int x0), some (.int x1)] G := rfl
theorem e_X8_makeFields {sa : Nat → Nat} {G : Hp} {b0 : Nat} {x0 : Int32} : f_X8_makeFields sa [.ref b0, .int x0] G = mrunL (some .int) (b_X8_makeFields sa) [some (.ref b0), some (.int x0), none, none, none, none, none] G := rfl
theorem e_X8_numberIn {sa : Nat → Nat} {G : Hp} {b0 : Nat} {x0 : Int32} : f_X8_numberIn sa [.ref b0, .int x0] G = mrunL (some .int) (b_X8_numberIn sa) [some (.ref b0), some (.int x0), none, none, none] G := rfl
theorem e_X8_put {sa : Nat → Nat} {G : Hp} {b0 : Nat} {x0 : Int32} : f_X8_put sa [.ref b0, .int x0] G = mrunL (some .int) (b_X8_put sa) [some (.ref b0), some (.int x0)] G := rfl
theorem e_X8_restore {sa : Nat → Nat} {G : Hp} {b0 : Nat} {x0 : Int32} : f_X8_restore sa [.ref b0, .int x0] G = mrunL (some .int) (b_X8_restore sa) [some (.ref b0), some (.int x0), none] G := rfl
theorem e_X8_say {sa : Nat → Nat} {G : Hp} {b0 : Nat} {x0 : Int32} : f_X8_say sa [.ref b0, .int x0] G = mrunL (some .int) (b_X8_say sa) [some (.ref b0), some (.int x0)] G := rfl
theorem e_X8_setNumber {sa : Nat → Nat} {G : Hp} {b0 : Nat} : f_X8_setNumber sa [.ref b0] G = mrunL (some .int) (b_X8_setNumber sa) [some (.ref b0)] G := rfl
theorem e_X8_tellAll {sa : Nat → Nat} {G : Hp} {b0 : Nat} {x0 : Int32} {x1 : Int32} {x2 : Int32} {x3 : Int32} : f_X8_tellAll sa [.ref b0, .int x0, .int x1, .int x2, .int x3] G = mrunL none (b_X8_tellAll sa) [some (.ref b0), some (.int x0), some (.int x1), some (.int x2), some (.int x3), none, none, none] G := rfl
theorem e_X8_writeMain {sa : Nat → Nat} {G : Hp} {b0 : Nat} : f_X8_writeMain sa [.ref b0] G = mrunL none (b_X8_writeMain sa) [some (.ref b0)] G := rfl
theorem e_X8_writeNumber {sa : Nat → Nat} {G : Hp} {b0 : Nat} {x0 : Int64} : f_X8_writeNumber sa [.ref b0, .long x0] G = mrunL none (b_X8_writeNumber sa) [some (.ref b0), some (.long x0), none, none, none, none, none] G := rfl
theorem e_X8_writeSet {sa : Nat → Nat} {G : Hp} {b0 : Nat} : f_X8_writeSet sa [.ref b0] G = mrunL none (b_X8_writeSet sa) [some (.ref b0)] G := rfl
theorem e_X8_writeUse {sa : Nat → Nat} {G : Hp} {b0 : Nat} : f_X8_writeUse sa [.ref b0] G = mrunL none (b_X8_writeUse sa) [some (.ref b0)] G := rfl
theorem e_X0_addEvent {sa : Nat → Nat} {G : Hp} {b0 : Nat} {x0 : Int32} {x1 : Int32} {x2 : Int32} : f_X0_addEvent sa [.ref b0, .int x0, .int x1, .int x2] G = mrunL none (b_X0_addEvent sa) [some (.ref b0), some (.int x0), some (.int x1), some (.int x2), none] G := rfl
theorem e_X0_numberInLetter {sa : Nat → Nat} {G : Hp} {b0 : Nat} {x0 : Int32} {x1 : Int32} : f_X0_numberInLetter sa [.ref b0, .int x0, .int x1] G = mrunL (some .int) (b_X0_numberInLetter sa) [some (.ref b0), some (.int x0), some (.int x1), none, none, none, none, none] G := rfl
theorem e_X1_decode {sa : Nat → Nat} {G : Hp} {b0 : Nat} {x0 : Nat} {x1 : Int32} : f_X1_decode sa [.ref b0, .ref x0, .int x1] G = mrunL (some .boolean) (b_X1_decode sa) [some (.ref b0), some (.ref x0), some (.int x1), none, none, none] G := rfl
theorem e_X2_addFields {sa : Nat → Nat} {G : Hp} {b0 : Nat} : f_X2_addFields sa [.ref b0] G = mrunL none (b_X2_addFields sa) [some (.ref b0), none, none, none, none] G := rfl
theorem e_X2_beginGroup {sa : Nat → Nat} {G : Hp} {b0 : Nat} : f_X2_beginGroup sa [.ref b0] G = mrunL none (b_X2_beginGroup sa) [some (.ref b0), none] G := rfl
theorem e_X2_faultOfFields {sa : Nat → Nat} {G : Hp} {b0 : Nat} : f_X2_faultOfFields sa [.ref b0] G = mrunL (some .int) (b_X2_faultOfFields sa) [some (.ref b0)] G := rfl
theorem e_X2_faultOfWhole {sa : Nat → Nat} {G : Hp} {b0 : Nat} : f_X2_faultOfWhole sa [.ref b0] G = mrunL (some .int) (b_X2_faultOfWhole sa) [some (.ref b0)] G := rfl
theorem e_X2_obeyUseItem {sa : Nat → Nat} {G : Hp} {b0 : Nat} : f_X2_obeyUseItem sa [.ref b0] G = mrunL none (b_X2_obeyUseItem sa) [some (.ref b0), none, none, none, none] G := rfl
theorem e_X2_pushNumbers {sa : Nat → Nat} {G : Hp} {b0 : Nat} : f_X2_pushNumbers sa [.ref b0] G = mrunL none (b_X2_pushNumbers sa) [some (.ref b0), none] G := rfl
theorem e_X4_clear {sa : Nat → Nat} {G : Hp} {b0 : Nat} : f_X4_clear sa [.ref b0] G = mrunL none (b_X4_clear sa) [some (.ref b0), none] G := rfl
theorem e_X4_copyFrom {sa : Nat → Nat} {G : Hp} {b0 : Nat} {x0 : Nat} : f_X4_copyFrom sa [.ref b0, .ref x0] G = mrunL none (b_X4_copyFrom sa) [some (.ref b0), some (.ref x0)] G := rfl
theorem e_X4_fieldsOfGroup {sa : Nat → Nat} {G : Hp} {b0 : Nat} {x0 : Int32} : f_X4_fieldsOfGroup sa [.ref b0, .int x0] G = mrunL (some .int) (b_X4_fieldsOfGroup sa) [some (.ref b0), some (.int x0), none, none] G := rfl
theorem e_X4_firstPlaceOfUse {sa : Nat → Nat} {G : Hp} {b0 : Nat} {x0 : Int32} {x1 : Int32} : f_X4_firstPlaceOfUse sa [.ref b0, .int x0, .int x1] G = mrunL (some .int) (b_X4_firstPlaceOfUse sa) [some (.ref b0), some (.int x0), some (.int x1), none, none] G := rfl
theorem e_X4_headBytes {sa : Nat → Nat} {G : Hp} {b0 : Nat} : f_X4_headBytes sa [.ref b0] G = mrunL (some .int) (b_X4_headBytes sa) [some (.ref b0)] G := rfl
theorem e_X4_placeOfLeastUse {sa : Nat → Nat} {G : Hp} {b0 : Nat} {x0 : Int32} {x1 : Int32} : f_X4_placeOfLeastUse sa [.ref b0, .int x0, .int x1] G = mrunL (some .int) (b_X4_placeOfLeastUse sa) [some (.ref b0), some (.int x0), some (.int x1), none, none, none] G := rfl
theorem e_X4_wantedByte {sa : Nat → Nat} {G : Hp} {b0 : Nat} {x0 : Int32} {x1 : Int32} {x2 : Int32} : f_X4_wantedByte sa [.ref b0, .int x0, .int x1, .int x2] G = mrunL (some .int) (b_X4_wantedByte sa) [some (.ref b0), some (.int x0), some (.int x1), some (.int x2), none, none] G := rfl
theorem e_X7_length {sa : Nat → Nat} {G : Hp} {b0 : Nat} {x0 : Int32} {x1 : Int32} : f_X7_length sa [.ref b0, .int x0, .int x1] G = mrunL (some .int) (b_X7_length sa) [some (.ref b0), some (.int x0), some (.int x1)] G := rfl
theorem e_X7_next {sa : Nat → Nat} {G : Hp} {b0 : Nat} : f_X7_next sa [.ref b0] G = mrunL (some .int) (b_X7_next sa) [some (.ref b0)] G := rfl
theorem e_X7_want {sa : Nat → Nat} {G : Hp} {b0 : Nat} {x0 : Int32} {x1 : Int32} : f_X7_want sa [.ref b0, .int x0, .int x1] G = mrunL (some .int) (b_X7_want sa) [some (.ref b0), some (.int x0), some (.int x1), none, none] G := rfl
theorem e_X8_comeSlots {sa : Nat → Nat} {G : Hp} {b0 : Nat} {x0 : Int32} : f_X8_comeSlots sa [.ref b0, .int x0] G = mrunL none (b_X8_comeSlots sa) [some (.ref b0), some (.int x0), none, none, none, none, none, none] G := rfl
theorem e_X8_comeValue {sa : Nat → Nat} {G : Hp} {b0 : Nat} {x0 : Int32} : f_X8_comeValue sa [.ref b0, .int x0] G = mrunL none (b_X8_comeValue sa) [some (.ref b0), some (.int x0), none, none] G := rfl
theorem e_X8_field {sa : Nat → Nat} {G : Hp} {b0 : Nat} {x0 : Int32} {x1 : Int32} : f_X8_field sa [.ref b0, .int x0, .int x1] G = mrunL (some .int) (b_X8_field sa) [some (.ref b0), some (.int x0), some (.int x1), none, none] G := rfl
theorem e_X8_last {sa : Nat → Nat} {G : Hp} {b0 : Nat} {x0 : Int32} : f_X8_last sa [.ref b0, .int x0] G = mrunL (some .int) (b_X8_last sa) [some (.ref b0), some (.int x0), none, none] G := rfl
theorem e_X8_made {sa : Nat → Nat} {G : Hp} {b0 : Nat} {x0 : Int32} {x1 : Int32} {x2 : Int32} : f_X8_made sa [.ref b0, .int x0, .int x1, .int x2] G = mrunL (some .int) (b_X8_made sa) [some (.ref b0), some (.int x0), some (.int x1), some (.int x2), none, none, none, none, none] G := rfl
theorem e_X8_mainItem {sa : Nat → Nat} {G : Hp} {b0 : Nat} : f_X8_mainItem sa [.ref b0] G = mrunL (some .int) (b_X8_mainItem sa) [some (.ref b0), none] G := rfl
theorem e_X8_want {sa : Nat → Nat} {G : Hp} {b0 : Nat} {x0 : Int32} {x1 : Int32} : f_X8_want sa [.ref b0, .int x0, .int x1] G = mrunL (some .int) (b_X8_want sa) [some (.ref b0), some (.int x0), some (.int x1), none] G := rfl
theorem e_X8_wholeItems {sa : Nat → Nat} {G : Hp} {b0 : Nat} : f_X8_wholeItems sa [.ref b0] G = mrunL (some .int) (b_X8_wholeItems sa) [some (.ref b0), none, none] G := rfl
theorem e_X8_writeItem {sa : Nat → Nat} {G : Hp} {b0 : Nat} : f_X8_writeItem sa [.ref b0] G = mrunL none (b_X8_writeItem sa) [some (.ref b0)] G := rfl
theorem e_X0_addUseEvents {sa : Nat → Nat} {G : Hp} {b0 : Nat} {x0 : Int32} {x1 : Int32} {x2 : Int32} : f_X0_addUseEvents sa [.ref b0, .int x0, .int x1, .int x2] G = mrunL none (b_X0_addUseEvents sa) [some (.ref b0), some (.int x0), some (.int x1), some (.int x2), none, none, none] G := rfl
theorem e_X0_become {sa : Nat → Nat} {G : Hp} {b0 : Nat} {x0 : Nat} : f_X0_become sa [.ref b0, .ref x0] G = mrunL none (b_X0_become sa) [some (.ref b0), some (.ref x0)] G := rfl
theorem e_X0_copyFrom {sa : Nat → Nat} {G : Hp} {b0 : Nat} {x0 : Nat} : f_X0_copyFrom sa [.ref b0, .ref x0] G = mrunL none (b_X0_copyFrom sa) [some (.ref b0), some (.ref x0)] G := rfl
theorem e_X0_cutValue {sa : Nat → Nat} {G : Hp} {b0 : Nat} {x0 : Int32} {x1 : Int32} : f_X0_cutValue sa [.ref b0, .int x0, .int x1] G = mrunL none (b_X0_cutValue sa) [some (.ref b0), some (.int x0), some (.int x1), none, none, none] G := rfl
theorem e_X0_idOfLetter {sa : Nat → Nat} {G : Hp} {b0 : Nat} : f_X0_idOfLetter sa [.ref b0] G = mrunL (some .int) (b_X0_idOfLetter sa) [some (.ref b0)] G := rfl
theorem e_X0_pressedInLetter {sa : Nat → Nat} {G : Hp} {b0 : Nat} {x0 : Int32} {x1 : Int32} : f_X0_pressedInLetter sa [.ref b0, .int x0, .int x1] G = mrunL (some .int) (b_X0_pressedInLetter sa) [some (.ref b0), some (.int x0), some (.int x1), none, none, none, none, none] G := rfl
theorem e_X2_begin {sa : Nat → Nat} {G : Hp} {b0 : Nat} : f_X2_begin sa [.ref b0] G = mrunL none (b_X2_begin sa) [some (.ref b0)] G := rfl
theorem e_X2_faultOfShapeItem {sa : Nat → Nat} {G : Hp} {b0 : Nat} : f_X2_faultOfShapeItem sa [.ref b0] G = mrunL (some .int) (b_X2_faultOfShapeItem sa) [some (.ref b0)] G := rfl
theorem e_X2_obeyNumberItem {sa : Nat → Nat} {G : Hp} {b0 : Nat} : f_X2_obeyNumberItem sa [.ref b0] G = mrunL none (b_X2_obeyNumberItem sa) [some (.ref b0)] G := rfl
theorem e_X2_obeyShapeItem {sa : Nat → Nat} {G : Hp} {b0 : Nat} : f_X2_obeyShapeItem sa [.ref b0] G = mrunL none (b_X2_obeyShapeItem sa) [some (.ref b0)] G := rfl
theorem e_X6_signs {sa : Nat → Nat} {G : Hp} {x0 : Nat} : f_X6_signs sa [.ref x0] G = mrunL (some .int) (b_X6_signs sa) [some (.ref x0), none, none, none] G := rfl
theorem e_X7_findItem {sa : Nat → Nat} {G : Hp} {b0 : Nat} {x0 : Int32} : f_X7_findItem sa [.ref b0, .int x0] G = mrunL (some .boolean) (b_X7_findItem sa) [some (.ref b0), some (.int x0), none, none] G := rfl
theorem e_X7_group {sa : Nat → Nat} {G : Hp} {b0 : Nat} {x0 : Int32} {x1 : Int32} : f_X7_group sa [.ref b0, .int x0, .int x1] G = mrunL (some .int) (b_X7_group sa) [some (.ref b0), some (.int x0), some (.int x1)] G := rfl
theorem e_X7_made {sa : Nat → Nat} {G : Hp} {b0 : Nat} {x0 : Int32} {x1 : Int32} {x2 : Int32} : f_X7_made sa [.ref b0, .int x0, .int x1, .int x2] G = mrunL (some .int) (b_X7_made sa) [some (.ref b0), some (.int x0), some (.int x1), some (.int x2), none, none, none] G := rfl
theorem e_X7_wholeItems {sa : Nat → Nat} {G : Hp} {b0 : Nat} : f_X7_wholeItems sa [.ref b0] G = mrunL (some .int) (b_X7_wholeItems sa) [some (.ref b0), none, none] G := rfl
theorem e_X8_come {sa : Nat → Nat} {G : Hp} {b0 : Nat} : f_X8_come sa [.ref b0] G = mrunL (some .int) (b_X8_come sa) [some (.ref b0), none, none, none] G := rfl
theorem e_X8_go {sa : Nat → Nat} {G : Hp} {b0 : Nat} {x0 : Int32} : f_X8_go sa [.ref b0, .int x0] G = mrunL (some .int) (b_X8_go sa) [some (.ref b0), some (.int x0), none, none] G := rfl
theorem e_X8_written {sa : Nat → Nat} {G : Hp} {b0 : Nat} {x0 : Int32} {x1 : Int32} : f_X8_written sa [.ref b0, .int x0, .int x1] G = mrunL (some .int) (b_X8_written sa) [some (.ref b0), some (.int x0), some (.int x1), none, none] G := rfl
theorem e_X0_cutSlots {sa : Nat → Nat} {G : Hp} {b0 : Nat} {x0 : Int32} {x1 : Int32} : f_X0_cutSlots sa [.ref b0, .int x0, .int x1] G = mrunL none (b_X0_cutSlots sa) [some (.ref b0), some (.int x0), some (.int x1), none, none] G := rfl
theorem e_X0_letterFits {sa : Nat → Nat} {G : Hp} {b0 : Nat} : f_X0_letterFits sa [.ref b0] G = mrunL (some .boolean) (b_X0_letterFits sa) [some (.ref b0), none] G := rfl
theorem e_X2_faultOfItem {sa : Nat → Nat} {G : Hp} {b0 : Nat} : f_X2_faultOfItem sa [.ref b0] G = mrunL (some .int) (b_X2_faultOfItem sa) [some (.ref b0)] G := rfl
theorem e_X2_obeyItem {sa : Nat → Nat} {G : Hp} {b0 : Nat} : f_X2_obeyItem sa [.ref b0] G = mrunL none (b_X2_obeyItem sa) [some (.ref b0)] G := rfl
theorem e_X7_image {sa : Nat → Nat} {G : Hp} {b0 : Nat} {x0 : Int32} : f_X7_image sa [.ref b0, .int x0] G = mrunL (some .int) (b_X7_image sa) [some (.ref b0), some (.int x0)] G := rfl
theorem e_X7_restore {sa : Nat → Nat} {G : Hp} {b0 : Nat} {x0 : Int32} : f_X7_restore sa [.ref b0, .int x0] G = mrunL (some .int) (b_X7_restore sa) [some (.ref b0), some (.int x0)] G := rfl
theorem e_X8_fault {sa : Nat → Nat} {G : Hp} {b0 : Nat} {x0 : Int32} : f_X8_fault sa [.ref b0, .int x0] G = mrunL (some .int) (b_X8_fault sa) [some (.ref b0), some (.int x0), none] G := rfl
theorem e_X8_read {sa : Nat → Nat} {G : Hp} {b0 : Nat} : f_X8_read sa [.ref b0] G = mrunL (some .int) (b_X8_read sa) [some (.ref b0), none, none] G := rfl
theorem e_X0_cutLetter {sa : Nat → Nat} {G : Hp} {b0 : Nat} : f_X0_cutLetter sa [.ref b0] G = mrunL none (b_X0_cutLetter sa) [some (.ref b0), none, none, none] G := rfl
theorem e_X2_goThrough {sa : Nat → Nat} {G : Hp} {b0 : Nat} {x0 : Nat} : f_X2_goThrough sa [.ref b0, .ref x0] G = mrunL none (b_X2_goThrough sa) [some (.ref b0), some (.ref x0), none, none, none, none] G := rfl
theorem e_X6_signAt {sa : Nat → Nat} {G : Hp} {x0 : Nat} {x1 : Int32} : f_X6_signAt sa [.ref x0, .int x1] G = mrunL (some .int) (b_X6_signAt sa) [some (.ref x0), some (.int x1), none, none, none] G := rfl
theorem e_X7_come {sa : Nat → Nat} {G : Hp} {b0 : Nat} : f_X7_come sa [.ref b0] G = mrunL (some .int) (b_X7_come sa) [some (.ref b0), none] G := rfl
theorem e_X7_fault {sa : Nat → Nat} {G : Hp} {b0 : Nat} {x0 : Int32} : f_X7_fault sa [.ref b0, .int x0] G = mrunL (some .int) (b_X7_fault sa) [some (.ref b0), some (.int x0)] G := rfl
theorem e_X7_read {sa : Nat → Nat} {G : Hp} {b0 : Nat} : f_X7_read sa [.ref b0] G = mrunL (some .int) (b_X7_read sa) [some (.ref b0)] G := rfl
theorem e_X7_written {sa : Nat → Nat} {G : Hp} {b0 : Nat} {x0 : Int32} {x1 : Int32} : f_X7_written sa [.ref b0, .int x0, .int x1] G = mrunL (some .int) (b_X7_written sa) [some (.ref b0), some (.int x0), some (.int x1), none] G := rfl
