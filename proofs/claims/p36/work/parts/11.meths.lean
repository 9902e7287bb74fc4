def mX0_init : Mt := (yX0_init, cX0_init, 1, none, 1, 20)
set_option maxRecDepth 20000 in
theorem ok_X0_init : okI mX0_init 0 := ⟨⟨mw_1_5, mw_1_82, ⟨by decide, by decide⟩, by decide +kernel⟩, mw_1_81, rfl, rfl⟩
def mX0_begin : Mt := (yX0_begin, cX0_begin, 2, none, 0, 0)
set_option maxRecDepth 20000 in
theorem ok_X0_begin : okV mX0_begin 1 := ⟨⟨mw_1_5, mw_3_160, ⟨by decide, by decide⟩, by decide +kernel⟩, mw_3_158, mw_3_159⟩
def mX0_copyFrom : Mt := (yX0_copyFrom, cX0_copyFrom, 2, none, 0, 0)
set_option maxRecDepth 20000 in
theorem ok_X0_copyFrom : okV mX0_copyFrom 1 := ⟨⟨mw_1_5, mw_3_102, ⟨by decide, by decide⟩, by decide +kernel⟩, mw_3_100, mw_3_101⟩
def mX0_isTooDusty : Mt := (yX0_isTooDusty, cX0_isTooDusty, 1, (some .boolean), 0, 0)
set_option maxRecDepth 20000 in
theorem ok_X0_isTooDusty : okV mX0_isTooDusty 0 := ⟨⟨mw_1_5, mw_2_184, ⟨by decide, by decide⟩, by decide +kernel⟩, mw_2_182, mw_2_183⟩
def mX0_readTape : Mt := (yX0_readTape, cX0_readTape, 3, (some .boolean), 0, 0)
set_option maxRecDepth 20000 in
theorem ok_X0_readTape : okV mX0_readTape 1 := ⟨⟨mw_1_5, mw_4_84, ⟨by decide, by decide⟩, by decide +kernel⟩, mw_4_82, mw_4_83⟩
def mX0_cleanWith : Mt := (yX0_cleanWith, cX0_cleanWith, 2, none, 0, 0)
set_option maxRecDepth 20000 in
theorem ok_X0_cleanWith : okV mX0_cleanWith 1 := ⟨⟨mw_1_5, mw_4_94, ⟨by decide, by decide⟩, by decide +kernel⟩, mw_4_92, mw_4_93⟩
def mX0_tell : Mt := (yX0_tell, cX0_tell, 2, (some .int), 1, 20)
set_option maxRecDepth 20000 in
theorem ok_X0_tell : okV mX0_tell 1 := ⟨⟨mw_1_5, mw_2_180, ⟨by decide, by decide⟩, by decide +kernel⟩, mw_2_178, mw_2_179⟩
def mX1_init : Mt := (yX1_init, cX1_init, 2, none, 4, 81)
set_option maxRecDepth 20000 in
theorem ok_X1_init : okI mX1_init 0 := ⟨⟨mw_1_9, mw_2_52, ⟨by decide, by decide⟩, by decide +kernel⟩, mw_2_51, rfl, rfl⟩
def mX1_record : Mt := (yX1_record, cX1_record, 2, none, 3, 71)
set_option maxRecDepth 20000 in
theorem ok_X1_record : okV mX1_record 1 := ⟨⟨mw_1_9, mw_3_82, ⟨by decide, by decide⟩, by decide +kernel⟩, mw_3_80, mw_3_81⟩
def mX1_dropOldest : Mt := (yX1_dropOldest, cX1_dropOldest, 3, none, 0, 0)
set_option maxRecDepth 20000 in
theorem ok_X1_dropOldest : okV mX1_dropOldest 0 := ⟨⟨mw_1_9, mw_3_86, ⟨by decide, by decide⟩, by decide +kernel⟩, mw_3_85, mw_s_2⟩
def mX2_init : Mt := (yX2_init, cX2_init, 1, none, 1, 20)
set_option maxRecDepth 20000 in
theorem ok_X2_init : okI mX2_init 0 := ⟨⟨mw_1_4, mw_1_38, ⟨by decide, by decide⟩, by decide +kernel⟩, mw_1_37, rfl, rfl⟩
def mX2_beginTape : Mt := (yX2_beginTape, cX2_beginTape, 4, none, 1, 21)
set_option maxRecDepth 20000 in
theorem ok_X2_beginTape : okV mX2_beginTape 3 := ⟨⟨mw_1_4, mw_3_127, ⟨by decide, by decide⟩, by decide +kernel⟩, mw_3_125, mw_3_126⟩
def mX2_beginCleaner : Mt := (yX2_beginCleaner, cX2_beginCleaner, 3, none, 1, 21)
set_option maxRecDepth 20000 in
theorem ok_X2_beginCleaner : okV mX2_beginCleaner 2 := ⟨⟨mw_1_4, mw_3_140, ⟨by decide, by decide⟩, by decide +kernel⟩, mw_3_138, mw_3_139⟩
def mX2_begin : Mt := (yX2_begin, cX2_begin, 2, none, 0, 0)
set_option maxRecDepth 20000 in
theorem ok_X2_begin : okV mX2_begin 1 := ⟨⟨mw_1_4, mw_3_131, ⟨by decide, by decide⟩, by decide +kernel⟩, mw_3_130, mw_s_3⟩
def mX2_copyFrom : Mt := (yX2_copyFrom, cX2_copyFrom, 2, none, 0, 0)
set_option maxRecDepth 20000 in
theorem ok_X2_copyFrom : okV mX2_copyFrom 1 := ⟨⟨mw_1_4, mw_3_98, ⟨by decide, by decide⟩, by decide +kernel⟩, mw_3_96, mw_3_97⟩
def mX2_tell : Mt := (yX2_tell, cX2_tell, 2, (some .int), 0, 0)
set_option maxRecDepth 20000 in
theorem ok_X2_tell : okV mX2_tell 1 := ⟨⟨mw_1_4, mw_2_151, ⟨by decide, by decide⟩, by decide +kernel⟩, mw_2_149, mw_2_150⟩
def mX3_init : Mt := (yX3_init, cX3_init, 1, none, 1, 20)
set_option maxRecDepth 20000 in
theorem ok_X3_init : okI mX3_init 0 := ⟨⟨mw_1_7, mw_1_138, ⟨by decide, by decide⟩, by decide +kernel⟩, mw_1_137, rfl, rfl⟩
def mX3_enter : Mt := (yX3_enter, cX3_enter, 4, none, 0, 0)
set_option maxRecDepth 20000 in
theorem ok_X3_enter : okV mX3_enter 3 := ⟨⟨mw_1_7, mw_3_186, ⟨by decide, by decide⟩, by decide +kernel⟩, mw_3_184, mw_3_185⟩
def mX3_copyFrom : Mt := (yX3_copyFrom, cX3_copyFrom, 2, none, 0, 0)
set_option maxRecDepth 20000 in
theorem ok_X3_copyFrom : okV mX3_copyFrom 1 := ⟨⟨mw_1_7, mw_3_110, ⟨by decide, by decide⟩, by decide +kernel⟩, mw_3_108, mw_3_109⟩
def mX3_isOpen : Mt := (yX3_isOpen, cX3_isOpen, 1, (some .boolean), 0, 0)
set_option maxRecDepth 20000 in
theorem ok_X3_isOpen : okV mX3_isOpen 0 := ⟨⟨mw_1_7, mw_2_143, ⟨by decide, by decide⟩, by decide +kernel⟩, mw_2_141, mw_2_142⟩
def mX3_carriedItem : Mt := (yX3_carriedItem, cX3_carriedItem, 1, (some .int), 0, 0)
set_option maxRecDepth 20000 in
theorem ok_X3_carriedItem : okV mX3_carriedItem 0 := ⟨⟨mw_1_7, mw_2_147, ⟨by decide, by decide⟩, by decide +kernel⟩, mw_2_145, mw_2_146⟩
def mX3_steps : Mt := (yX3_steps, cX3_steps, 1, (some .int), 0, 0)
set_option maxRecDepth 20000 in
theorem ok_X3_steps : okV mX3_steps 0 := ⟨⟨mw_1_7, mw_4_106, ⟨by decide, by decide⟩, by decide +kernel⟩, mw_4_104, mw_4_105⟩
def mX3_tell : Mt := (yX3_tell, cX3_tell, 2, (some .int), 0, 0)
set_option maxRecDepth 20000 in
theorem ok_X3_tell : okV mX3_tell 1 := ⟨⟨mw_1_7, mw_2_222, ⟨by decide, by decide⟩, by decide +kernel⟩, mw_2_220, mw_2_221⟩
def mX4_init : Mt := (yX4_init, cX4_init, 1, none, 1, 20)
set_option maxRecDepth 20000 in
theorem ok_X4_init : okI mX4_init 0 := ⟨⟨mw_1_8, mw_1_217, ⟨by decide, by decide⟩, by decide +kernel⟩, mw_1_216, rfl, rfl⟩
def mX4_copyFrom : Mt := (yX4_copyFrom, cX4_copyFrom, 2, none, 1, 29)
set_option maxRecDepth 20000 in
theorem ok_X4_copyFrom : okV mX4_copyFrom 1 := ⟨⟨mw_1_8, mw_3_114, ⟨by decide, by decide⟩, by decide +kernel⟩, mw_3_112, mw_3_113⟩
def mX4_add : Mt := (yX4_add, cX4_add, 5, none, 1, 21)
set_option maxRecDepth 20000 in
theorem ok_X4_add : okV mX4_add 4 := ⟨⟨mw_1_8, mw_4_33, ⟨by decide, by decide⟩, by decide +kernel⟩, mw_4_31, mw_4_32⟩
def mX5_init : Mt := (yX5_init, cX5_init, 2, none, 2, 40)
set_option maxRecDepth 20000 in
theorem ok_X5_init : okI mX5_init 0 := ⟨⟨mw_1_6, mw_1_131, ⟨by decide, by decide⟩, by decide +kernel⟩, mw_1_130, rfl, rfl⟩
def mX5_copyFrom : Mt := (yX5_copyFrom, cX5_copyFrom, 3, none, 1, 21)
set_option maxRecDepth 20000 in
theorem ok_X5_copyFrom : okV mX5_copyFrom 1 := ⟨⟨mw_1_6, mw_3_106, ⟨by decide, by decide⟩, by decide +kernel⟩, mw_3_104, mw_3_105⟩
def mX5_jobAt : Mt := (yX5_jobAt, cX5_jobAt, 2, (some (.object "DustRobot$Job")), 0, 0)
set_option maxRecDepth 20000 in
theorem ok_X5_jobAt : okV mX5_jobAt 1 := ⟨⟨mw_1_6, mw_2_218, ⟨by decide, by decide⟩, by decide +kernel⟩, mw_2_216, mw_2_217⟩
def mX5_enter : Mt := (yX5_enter, cX5_enter, 4, (some .int), 1, 23)
set_option maxRecDepth 20000 in
theorem ok_X5_enter : okV mX5_enter 3 := ⟨⟨mw_1_6, mw_3_182, ⟨by decide, by decide⟩, by decide +kernel⟩, mw_3_180, mw_3_181⟩
def mX5_rankKinds : Mt := (yX5_rankKinds, cX5_rankKinds, 3, (some .int), 0, 0)
set_option maxRecDepth 20000 in
theorem ok_X5_rankKinds : okV mX5_rankKinds 2 := ⟨⟨mw_1_6, mw_3_233, ⟨by decide, by decide⟩, by decide +kernel⟩, mw_3_231, mw_3_232⟩
def mX5_rankOf : Mt := (yX5_rankOf, cX5_rankOf, 2, (some .int), 0, 0)
set_option maxRecDepth 20000 in
theorem ok_X5_rankOf : okV mX5_rankOf 1 := ⟨⟨mw_1_6, mw_3_20, ⟨by decide, by decide⟩, by decide +kernel⟩, mw_3_18, mw_3_19⟩
def mX5_jobsInState : Mt := (yX5_jobsInState, cX5_jobsInState, 4, (some .int), 0, 0)
set_option maxRecDepth 20000 in
theorem ok_X5_jobsInState : okV mX5_jobsInState 1 := ⟨⟨mw_1_6, mw_2_233, ⟨by decide, by decide⟩, by decide +kernel⟩, mw_2_231, mw_2_232⟩
def mX5_jobsWith : Mt := (yX5_jobsWith, cX5_jobsWith, 5, (some .int), 1, 20)
set_option maxRecDepth 20000 in
theorem ok_X5_jobsWith : okV mX5_jobsWith 1 := ⟨⟨mw_1_6, mw_2_139, ⟨by decide, by decide⟩, by decide +kernel⟩, mw_2_137, mw_2_138⟩
def mX6_init : Mt := (yX6_init, cX6_init, 1, none, 3, 61)
set_option maxRecDepth 20000 in
theorem ok_X6_init : okI mX6_init 0 := ⟨⟨mw_1_2, mw_1_25, ⟨by decide, by decide⟩, by decide +kernel⟩, mw_1_24, rfl, rfl⟩
def mX6_copyFrom : Mt := (yX6_copyFrom, cX6_copyFrom, 2, none, 2, 50)
set_option maxRecDepth 20000 in
theorem ok_X6_copyFrom : okV mX6_copyFrom 1 := ⟨⟨mw_1_2, mw_3_90, ⟨by decide, by decide⟩, by decide +kernel⟩, mw_3_88, mw_3_89⟩
def mX6_isTakenOrAimedAt : Mt := (yX6_isTakenOrAimedAt, cX6_isTakenOrAimedAt, 4, (some .boolean), 1, 22)
set_option maxRecDepth 20000 in
theorem ok_X6_isTakenOrAimedAt : okV mX6_isTakenOrAimedAt 1 := ⟨⟨mw_1_2, mw_3_73, ⟨by decide, by decide⟩, by decide +kernel⟩, mw_3_71, mw_3_72⟩
def mX6_faultOfJob : Mt := (yX6_faultOfJob, cX6_faultOfJob, 5, (some .int), 1, 21)
set_option maxRecDepth 20000 in
theorem ok_X6_faultOfJob : okV mX6_faultOfJob 3 := ⟨⟨mw_1_2, mw_3_176, ⟨by decide, by decide⟩, by decide +kernel⟩, mw_3_174, mw_3_175⟩
def mX6_jobToBegin : Mt := (yX6_jobToBegin, cX6_jobToBegin, 6, (some .int), 3, 69)
set_option maxRecDepth 20000 in
theorem ok_X6_jobToBegin : okV mX6_jobToBegin 0 := ⟨⟨mw_1_2, mw_3_10, ⟨by decide, by decide⟩, by decide +kernel⟩, mw_3_8, mw_3_9⟩
def mX6_groupOf : Mt := (yX6_groupOf, cX6_groupOf, 3, (some .int), 1, 21)
set_option maxRecDepth 20000 in
theorem ok_X6_groupOf : okV mX6_groupOf 1 := ⟨⟨mw_1_2, mw_3_14, ⟨by decide, by decide⟩, by decide +kernel⟩, mw_3_13, mw_s_0⟩
def mX6_canBegin : Mt := (yX6_canBegin, cX6_canBegin, 3, (some .boolean), 2, 47)
set_option maxRecDepth 20000 in
theorem ok_X6_canBegin : okV mX6_canBegin 1 := ⟨⟨mw_1_2, mw_3_24, ⟨by decide, by decide⟩, by decide +kernel⟩, mw_3_23, mw_s_1⟩
def mX6_isAllowed : Mt := (yX6_isAllowed, cX6_isAllowed, 3, (some .boolean), 0, 0)
set_option maxRecDepth 20000 in
theorem ok_X6_isAllowed : okV mX6_isAllowed 2 := ⟨⟨mw_1_2, mw_4_60, ⟨by decide, by decide⟩, by decide +kernel⟩, mw_4_59, mw_s_10⟩
def mX6_costTo : Mt := (yX6_costTo, cX6_costTo, 4, (some .float), 1, 21)
set_option maxRecDepth 20000 in
theorem ok_X6_costTo : okV mX6_costTo 1 := ⟨⟨mw_1_2, mw_4_53, ⟨by decide, by decide⟩, by decide +kernel⟩, mw_4_52, mw_s_9⟩
def mX6_passOneTick : Mt := (yX6_passOneTick, cX6_passOneTick, 3, (some .int), 5, 116)
set_option maxRecDepth 20000 in
theorem ok_X6_passOneTick : okV mX6_passOneTick 0 := ⟨⟨mw_1_2, mw_4_24, ⟨by decide, by decide⟩, by decide +kernel⟩, mw_4_22, mw_4_23⟩
def mX6_beginJob : Mt := (yX6_beginJob, cX6_beginJob, 3, none, 4, 94)
set_option maxRecDepth 20000 in
theorem ok_X6_beginJob : okV mX6_beginJob 0 := ⟨⟨mw_1_2, mw_4_28, ⟨by decide, by decide⟩, by decide +kernel⟩, mw_4_27, mw_s_5⟩
def mX6_doStep : Mt := (yX6_doStep, cX6_doStep, 5, (some .boolean), 4, 91)
set_option maxRecDepth 20000 in
theorem ok_X6_doStep : okV mX6_doStep 1 := ⟨⟨mw_1_2, mw_4_40, ⟨by decide, by decide⟩, by decide +kernel⟩, mw_4_39, mw_s_6⟩
def mX6_doMoveStep : Mt := (yX6_doMoveStep, cX6_doMoveStep, 4, (some .boolean), 3, 68)
set_option maxRecDepth 20000 in
theorem ok_X6_doMoveStep : okV mX6_doMoveStep 3 := ⟨⟨mw_1_2, mw_4_45, ⟨by decide, by decide⟩, by decide +kernel⟩, mw_4_44, mw_s_7⟩
def mX6_doDriveStep : Mt := (yX6_doDriveStep, cX6_doDriveStep, 4, (some .boolean), 3, 68)
set_option maxRecDepth 20000 in
theorem ok_X6_doDriveStep : okV mX6_doDriveStep 3 := ⟨⟨mw_1_2, mw_4_72, ⟨by decide, by decide⟩, by decide +kernel⟩, mw_4_71, mw_s_13⟩
def mX6_goTo : Mt := (yX6_goTo, cX6_goTo, 4, (some .boolean), 2, 45)
set_option maxRecDepth 20000 in
theorem ok_X6_goTo : okV mX6_goTo 2 := ⟨⟨mw_1_2, mw_4_49, ⟨by decide, by decide⟩, by decide +kernel⟩, mw_4_48, mw_s_8⟩
def mX6_takeInHand : Mt := (yX6_takeInHand, cX6_takeInHand, 3, (some .boolean), 0, 0)
set_option maxRecDepth 20000 in
theorem ok_X6_takeInHand : okV mX6_takeInHand 2 := ⟨⟨mw_1_2, mw_4_64, ⟨by decide, by decide⟩, by decide +kernel⟩, mw_4_63, mw_s_11⟩
def mX6_putHome : Mt := (yX6_putHome, cX6_putHome, 2, (some .boolean), 0, 0)
set_option maxRecDepth 20000 in
theorem ok_X6_putHome : okV mX6_putHome 1 := ⟨⟨mw_1_2, mw_4_68, ⟨by decide, by decide⟩, by decide +kernel⟩, mw_4_67, mw_s_12⟩
def mX6_loadDrive : Mt := (yX6_loadDrive, cX6_loadDrive, 4, (some .boolean), 0, 0)
set_option maxRecDepth 20000 in
theorem ok_X6_loadDrive : okV mX6_loadDrive 3 := ⟨⟨mw_1_2, mw_4_76, ⟨by decide, by decide⟩, by decide +kernel⟩, mw_4_75, mw_s_14⟩
def mX6_unloadDrive : Mt := (yX6_unloadDrive, cX6_unloadDrive, 4, (some .boolean), 1, 22)
set_option maxRecDepth 20000 in
theorem ok_X6_unloadDrive : okV mX6_unloadDrive 3 := ⟨⟨mw_1_2, mw_4_98, ⟨by decide, by decide⟩, by decide +kernel⟩, mw_4_97, mw_s_17⟩
def mX6_readInDrive : Mt := (yX6_readInDrive, cX6_readInDrive, 4, (some .boolean), 2, 45)
set_option maxRecDepth 20000 in
theorem ok_X6_readInDrive : okV mX6_readInDrive 3 := ⟨⟨mw_1_2, mw_4_80, ⟨by decide, by decide⟩, by decide +kernel⟩, mw_4_79, mw_s_15⟩
def mX6_cleanDrive : Mt := (yX6_cleanDrive, cX6_cleanDrive, 4, (some .boolean), 2, 45)
set_option maxRecDepth 20000 in
theorem ok_X6_cleanDrive : okV mX6_cleanDrive 3 := ⟨⟨mw_1_2, mw_4_90, ⟨by decide, by decide⟩, by decide +kernel⟩, mw_4_89, mw_s_16⟩
def mX6_goOn : Mt := (yX6_goOn, cX6_goOn, 3, (some .int), 2, 45)
set_option maxRecDepth 20000 in
theorem ok_X6_goOn : okV mX6_goOn 1 := ⟨⟨mw_1_2, mw_4_102, ⟨by decide, by decide⟩, by decide +kernel⟩, mw_4_101, mw_s_18⟩
def mX7_init : Mt := (yX7_init, cX7_init, 2, none, 2, 40)
set_option maxRecDepth 20000 in
theorem ok_X7_init : okI mX7_init 0 := ⟨⟨mw_1_3, mw_1_31, ⟨by decide, by decide⟩, by decide +kernel⟩, mw_1_30, rfl, rfl⟩
def mX7_copyFrom : Mt := (yX7_copyFrom, cX7_copyFrom, 3, none, 1, 21)
set_option maxRecDepth 20000 in
theorem ok_X7_copyFrom : okV mX7_copyFrom 1 := ⟨⟨mw_1_3, mw_3_94, ⟨by decide, by decide⟩, by decide +kernel⟩, mw_3_92, mw_3_93⟩
def mX7_hasSlot : Mt := (yX7_hasSlot, cX7_hasSlot, 1, (some .boolean), 0, 0)
set_option maxRecDepth 20000 in
theorem ok_X7_hasSlot : okS mX7_hasSlot 1 := ⟨⟨mw_1_3, mw_2_161, ⟨by decide, by decide⟩, by decide +kernel⟩, mw_2_160⟩
def mX7_itemAt : Mt := (yX7_itemAt, cX7_itemAt, 2, (some (.object "DustRobot$Item")), 0, 0)
set_option maxRecDepth 20000 in
theorem ok_X7_itemAt : okV mX7_itemAt 1 := ⟨⟨mw_1_3, mw_2_132, ⟨by decide, by decide⟩, by decide +kernel⟩, mw_2_130, mw_2_131⟩
def mX7_driveAt : Mt := (yX7_driveAt, cX7_driveAt, 2, (some (.object "DustRobot$Drive")), 0, 0)
set_option maxRecDepth 20000 in
theorem ok_X7_driveAt : okV mX7_driveAt 1 := ⟨⟨mw_1_3, mw_2_176, ⟨by decide, by decide⟩, by decide +kernel⟩, mw_2_174, mw_2_175⟩
def mX7_freeItem : Mt := (yX7_freeItem, cX7_freeItem, 1, (some (.object "DustRobot$Item")), 0, 0)
set_option maxRecDepth 20000 in
theorem ok_X7_freeItem : okV mX7_freeItem 0 := ⟨⟨mw_1_3, mw_3_78, ⟨by decide, by decide⟩, by decide +kernel⟩, mw_3_76, mw_3_77⟩
def mX7_freeDrive : Mt := (yX7_freeDrive, cX7_freeDrive, 1, (some (.object "DustRobot$Drive")), 0, 0)
set_option maxRecDepth 20000 in
theorem ok_X7_freeDrive : okV mX7_freeDrive 0 := ⟨⟨mw_1_3, mw_3_156, ⟨by decide, by decide⟩, by decide +kernel⟩, mw_3_154, mw_3_155⟩
def mX7_itemWithHome : Mt := (yX7_itemWithHome, cX7_itemWithHome, 3, (some .int), 0, 0)
set_option maxRecDepth 20000 in
theorem ok_X7_itemWithHome : okV mX7_itemWithHome 1 := ⟨⟨mw_1_3, mw_2_165, ⟨by decide, by decide⟩, by decide +kernel⟩, mw_2_163, mw_2_164⟩
def mX7_driveBeside : Mt := (yX7_driveBeside, cX7_driveBeside, 3, (some .int), 0, 0)
set_option maxRecDepth 20000 in
theorem ok_X7_driveBeside : okV mX7_driveBeside 1 := ⟨⟨mw_1_3, mw_3_152, ⟨by decide, by decide⟩, by decide +kernel⟩, mw_3_150, mw_3_151⟩
def mX7_driveToRead : Mt := (yX7_driveToRead, cX7_driveToRead, 5, (some .int), 1, 20)
set_option maxRecDepth 20000 in
theorem ok_X7_driveToRead : okV mX7_driveToRead 0 := ⟨⟨mw_1_3, mw_3_28, ⟨by decide, by decide⟩, by decide +kernel⟩, mw_3_26, mw_3_27⟩
def mX7_cleanerNearest : Mt := (yX7_cleanerNearest, cX7_cleanerNearest, 7, (some .int), 1, 21)
set_option maxRecDepth 20000 in
theorem ok_X7_cleanerNearest : okV mX7_cleanerNearest 1 := ⟨⟨mw_1_3, mw_3_33, ⟨by decide, by decide⟩, by decide +kernel⟩, mw_3_31, mw_3_32⟩
def mX7_dustOfAll : Mt := (yX7_dustOfAll, cX7_dustOfAll, 3, (some .float), 0, 0)
set_option maxRecDepth 20000 in
theorem ok_X7_dustOfAll : okV mX7_dustOfAll 0 := ⟨⟨mw_1_3, mw_2_207, ⟨by decide, by decide⟩, by decide +kernel⟩, mw_2_205, mw_2_206⟩
def mX7_sumOverDrives : Mt := (yX7_sumOverDrives, cX7_sumOverDrives, 4, (some .int), 2, 41)
set_option maxRecDepth 20000 in
theorem ok_X7_sumOverDrives : okV mX7_sumOverDrives 1 := ⟨⟨mw_1_3, mw_2_237, ⟨by decide, by decide⟩, by decide +kernel⟩, mw_2_235, mw_2_236⟩
def mX7_usesOfAll : Mt := (yX7_usesOfAll, cX7_usesOfAll, 3, (some .int), 0, 0)
set_option maxRecDepth 20000 in
theorem ok_X7_usesOfAll : okV mX7_usesOfAll 0 := ⟨⟨mw_1_3, mw_3_2, ⟨by decide, by decide⟩, by decide +kernel⟩, mw_3_0, mw_3_1⟩
def mX8_init : Mt := (yX8_init, cX8_init, 1, none, 1, 20)
set_option maxRecDepth 20000 in
theorem ok_X8_init : okI mX8_init 0 := ⟨⟨mw_1_10, mw_2_69, ⟨by decide, by decide⟩, by decide +kernel⟩, mw_2_68, rfl, rfl⟩
def mX9_init : Mt := (yX9_init, cX9_init, 1, none, 5, 102)
set_option maxRecDepth 20000 in
theorem ok_X9_init : okI mX9_init 0 := ⟨⟨mw_1_1, mw_1_17, ⟨by decide, by decide⟩, by decide +kernel⟩, mw_1_16, rfl, rfl⟩
def mX9_addDrive : Mt := (yX9_addDrive, cX9_addDrive, 3, (some .int), 4, 92)
set_option maxRecDepth 20000 in
theorem ok_X9_addDrive : okV mX9_addDrive 1 := ⟨⟨mw_1_1, mw_3_148, ⟨by decide, by decide⟩, by decide +kernel⟩, mw_3_146, mw_3_147⟩
def mX9_addTape : Mt := (yX9_addTape, cX9_addTape, 4, (some .int), 4, 92)
set_option maxRecDepth 20000 in
theorem ok_X9_addTape : okV mX9_addTape 2 := ⟨⟨mw_1_1, mw_3_68, ⟨by decide, by decide⟩, by decide +kernel⟩, mw_3_66, mw_3_67⟩
def mX9_addCleaner : Mt := (yX9_addCleaner, cX9_addCleaner, 4, (some .int), 4, 92)
set_option maxRecDepth 20000 in
theorem ok_X9_addCleaner : okV mX9_addCleaner 2 := ⟨⟨mw_1_1, mw_3_136, ⟨by decide, by decide⟩, by decide +kernel⟩, mw_3_134, mw_3_135⟩
def mX9_refill : Mt := (yX9_refill, cX9_refill, 5, (some .int), 4, 92)
set_option maxRecDepth 20000 in
theorem ok_X9_refill : okV mX9_refill 2 := ⟨⟨mw_1_1, mw_3_224, ⟨by decide, by decide⟩, by decide +kernel⟩, mw_3_222, mw_3_223⟩
def mX9_setLimit : Mt := (yX9_setLimit, cX9_setLimit, 3, (some .int), 4, 92)
set_option maxRecDepth 20000 in
theorem ok_X9_setLimit : okV mX9_setLimit 1 := ⟨⟨mw_1_1, mw_3_213, ⟨by decide, by decide⟩, by decide +kernel⟩, mw_3_211, mw_3_212⟩
def mX9_setCeiling : Mt := (yX9_setCeiling, cX9_setCeiling, 5, (some .int), 4, 92)
set_option maxRecDepth 20000 in
theorem ok_X9_setCeiling : okV mX9_setCeiling 2 := ⟨⟨mw_1_1, mw_3_218, ⟨by decide, by decide⟩, by decide +kernel⟩, mw_3_216, mw_3_217⟩
def mX9_setOrder : Mt := (yX9_setOrder, cX9_setOrder, 3, (some .int), 4, 92)
set_option maxRecDepth 20000 in
theorem ok_X9_setOrder : okV mX9_setOrder 2 := ⟨⟨mw_1_1, mw_3_228, ⟨by decide, by decide⟩, by decide +kernel⟩, mw_3_226, mw_3_227⟩
def mX9_read : Mt := (yX9_read, cX9_read, 2, (some .int), 5, 116)
set_option maxRecDepth 20000 in
theorem ok_X9_read : okV mX9_read 1 := ⟨⟨mw_1_1, mw_3_168, ⟨by decide, by decide⟩, by decide +kernel⟩, mw_3_166, mw_3_167⟩
def mX9_clean : Mt := (yX9_clean, cX9_clean, 2, (some .int), 5, 116)
set_option maxRecDepth 20000 in
theorem ok_X9_clean : okV mX9_clean 1 := ⟨⟨mw_1_1, mw_3_190, ⟨by decide, by decide⟩, by decide +kernel⟩, mw_3_188, mw_3_189⟩
def mX9_move : Mt := (yX9_move, cX9_move, 3, (some .int), 5, 116)
set_option maxRecDepth 20000 in
theorem ok_X9_move : okV mX9_move 2 := ⟨⟨mw_1_1, mw_3_194, ⟨by decide, by decide⟩, by decide +kernel⟩, mw_3_192, mw_3_193⟩
def mX9_putOff : Mt := (yX9_putOff, cX9_putOff, 5, (some .int), 4, 92)
set_option maxRecDepth 20000 in
theorem ok_X9_putOff : okV mX9_putOff 2 := ⟨⟨mw_1_1, mw_3_201, ⟨by decide, by decide⟩, by decide +kernel⟩, mw_3_199, mw_3_200⟩
def mX9_withdraw : Mt := (yX9_withdraw, cX9_withdraw, 3, (some .int), 4, 92)
set_option maxRecDepth 20000 in
theorem ok_X9_withdraw : okV mX9_withdraw 1 := ⟨⟨mw_1_1, mw_3_205, ⟨by decide, by decide⟩, by decide +kernel⟩, mw_3_203, mw_3_204⟩
def mX9_tick : Mt := (yX9_tick, cX9_tick, 4, (some .int), 6, 138)
set_option maxRecDepth 20000 in
theorem ok_X9_tick : okV mX9_tick 1 := ⟨⟨mw_1_1, mw_4_20, ⟨by decide, by decide⟩, by decide +kernel⟩, mw_4_18, mw_4_19⟩
def mX9_item : Mt := (yX9_item, cX9_item, 4, (some .int), 2, 44)
set_option maxRecDepth 20000 in
theorem ok_X9_item : okV mX9_item 2 := ⟨⟨mw_1_1, mw_2_128, ⟨by decide, by decide⟩, by decide +kernel⟩, mw_2_126, mw_2_127⟩
def mX9_homeOf : Mt := (yX9_homeOf, cX9_homeOf, 2, (some .int), 1, 22)
set_option maxRecDepth 20000 in
theorem ok_X9_homeOf : okV mX9_homeOf 1 := ⟨⟨mw_1_1, mw_2_158, ⟨by decide, by decide⟩, by decide +kernel⟩, mw_2_156, mw_2_157⟩
def mX9_drive : Mt := (yX9_drive, cX9_drive, 4, (some .int), 2, 41)
set_option maxRecDepth 20000 in
theorem ok_X9_drive : okV mX9_drive 2 := ⟨⟨mw_1_1, mw_2_172, ⟨by decide, by decide⟩, by decide +kernel⟩, mw_2_170, mw_2_171⟩
def mX9_dust : Mt := (yX9_dust, cX9_dust, 3, (some .float), 1, 21)
set_option maxRecDepth 20000 in
theorem ok_X9_dust : okV mX9_dust 1 := ⟨⟨mw_1_1, mw_2_191, ⟨by decide, by decide⟩, by decide +kernel⟩, mw_2_189, mw_2_190⟩
def mX9_ceiling : Mt := (yX9_ceiling, cX9_ceiling, 3, (some .float), 1, 21)
set_option maxRecDepth 20000 in
theorem ok_X9_ceiling : okV mX9_ceiling 1 := ⟨⟨mw_1_1, mw_2_199, ⟨by decide, by decide⟩, by decide +kernel⟩, mw_2_197, mw_2_198⟩
def mX9_meter : Mt := (yX9_meter, cX9_meter, 2, (some .float), 1, 22)
set_option maxRecDepth 20000 in
theorem ok_X9_meter : okV mX9_meter 1 := ⟨⟨mw_1_1, mw_2_203, ⟨by decide, by decide⟩, by decide +kernel⟩, mw_2_201, mw_2_202⟩
def mX9_job : Mt := (yX9_job, cX9_job, 4, (some .int), 1, 22)
set_option maxRecDepth 20000 in
theorem ok_X9_job : okV mX9_job 2 := ⟨⟨mw_1_1, mw_2_214, ⟨by decide, by decide⟩, by decide +kernel⟩, mw_2_212, mw_2_213⟩
def mX9_next : Mt := (yX9_next, cX9_next, 1, (some .int), 4, 94)
set_option maxRecDepth 20000 in
theorem ok_X9_next : okV mX9_next 0 := ⟨⟨mw_1_1, mw_3_6, ⟨by decide, by decide⟩, by decide +kernel⟩, mw_3_4, mw_3_5⟩
def mX9_count : Mt := (yX9_count, cX9_count, 2, (some .int), 3, 64)
set_option maxRecDepth 20000 in
theorem ok_X9_count : okV mX9_count 1 := ⟨⟨mw_1_1, mw_2_229, ⟨by decide, by decide⟩, by decide +kernel⟩, mw_2_227, mw_2_228⟩
def mX9_giveJob : Mt := (yX9_giveJob, cX9_giveJob, 5, (some .int), 4, 92)
set_option maxRecDepth 20000 in
theorem ok_X9_giveJob : okV mX9_giveJob 3 := ⟨⟨mw_1_1, mw_3_172, ⟨by decide, by decide⟩, by decide +kernel⟩, mw_3_171, mw_s_4⟩
def mX9_isFrom : Mt := (yX9_isFrom, cX9_isFrom, 3, (some .boolean), 0, 0)
set_option maxRecDepth 20000 in
theorem ok_X9_isFrom : okS mX9_isFrom 3 := ⟨⟨mw_1_1, mw_2_135, ⟨by decide, by decide⟩, by decide +kernel⟩, mw_2_134⟩
def mX9_floatOf : Mt := (yX9_floatOf, cX9_floatOf, 6, (some .float), 0, 0)
set_option maxRecDepth 20000 in
theorem ok_X9_floatOf : okS mX9_floatOf 1 := ⟨⟨mw_1_1, mw_3_120, ⟨by decide, by decide⟩, by decide +kernel⟩, mw_3_119⟩
def mX9_noNumber : Mt := (yX9_noNumber, cX9_noNumber, 0, (some .float), 0, 0)
set_option maxRecDepth 20000 in
theorem ok_X9_noNumber : okS mX9_noNumber 0 := ⟨⟨mw_1_1, mw_2_194, ⟨by decide, by decide⟩, by decide +kernel⟩, mw_2_193⟩
def mL_cell : Mt := (yL_cell, cL_cell, 2, (some .int), 0, 0)
set_option maxRecDepth 20000 in
theorem ok_L_cell : okS mL_cell 2 := ⟨⟨mw_1_0, mw_2_116, ⟨by decide, by decide⟩, by decide +kernel⟩, mw_2_115⟩
def mL_low : Mt := (yL_low, cL_low, 2, (some .int), 0, 0)
set_option maxRecDepth 20000 in
theorem ok_L_low : okS mL_low 2 := ⟨⟨mw_1_0, mw_2_120, ⟨by decide, by decide⟩, by decide +kernel⟩, mw_2_119⟩
def mL_bits : Mt := (yL_bits, cL_bits, 2, (some .int), 0, 0)
set_option maxRecDepth 20000 in
theorem ok_L_bits : okS mL_bits 1 := ⟨⟨mw_1_0, mw_2_154, ⟨by decide, by decide⟩, by decide +kernel⟩, mw_2_153⟩
def mL_isDusty : Mt := (yL_isDusty, cL_isDusty, 2, (some .boolean), 0, 0)
set_option maxRecDepth 20000 in
theorem ok_L_isDusty : okS mL_isDusty 2 := ⟨⟨mw_1_0, mw_2_187, ⟨by decide, by decide⟩, by decide +kernel⟩, mw_2_186⟩
def mL_away : Mt := (yL_away, cL_away, 2, (some .int), 0, 0)
set_option maxRecDepth 20000 in
theorem ok_L_away : okS mL_away 2 := ⟨⟨mw_1_0, mw_3_55, ⟨by decide, by decide⟩, by decide +kernel⟩, mw_3_54⟩
def mL_atHome : Mt := (yL_atHome, cL_atHome, 5, (some .int), 0, 0)
set_option maxRecDepth 20000 in
theorem ok_L_atHome : okS mL_atHome 3 := ⟨⟨mw_1_0, mw_3_46, ⟨by decide, by decide⟩, by decide +kernel⟩, mw_3_45⟩
def mL_rank : Mt := (yL_rank, cL_rank, 2, (some .int), 0, 0)
set_option maxRecDepth 20000 in
theorem ok_L_rank : okS mL_rank 2 := ⟨⟨mw_1_0, mw_3_61, ⟨by decide, by decide⟩, by decide +kernel⟩, mw_3_60⟩
def mL_isAhead : Mt := (yL_isAhead, cL_isAhead, 8, (some .boolean), 1, 21)
set_option maxRecDepth 20000 in
theorem ok_L_isAhead : okS mL_isAhead 5 := ⟨⟨mw_1_0, mw_3_58, ⟨by decide, by decide⟩, by decide +kernel⟩, mw_3_57⟩
def mL_drive : Mt := (yL_drive, cL_drive, 4, (some .int), 1, 21)
set_option maxRecDepth 20000 in
theorem ok_L_drive : okS mL_drive 2 := ⟨⟨mw_1_0, mw_3_49, ⟨by decide, by decide⟩, by decide +kernel⟩, mw_3_48⟩
def mL_cleaner : Mt := (yL_cleaner, cL_cleaner, 5, (some .int), 1, 21)
set_option maxRecDepth 20000 in
theorem ok_L_cleaner : okS mL_cleaner 2 := ⟨⟨mw_1_0, mw_3_52, ⟨by decide, by decide⟩, by decide +kernel⟩, mw_3_51⟩
def mL_canBegin : Mt := (yL_canBegin, cL_canBegin, 7, (some .boolean), 2, 45)
set_option maxRecDepth 20000 in
theorem ok_L_canBegin : okS mL_canBegin 6 := ⟨⟨mw_1_0, mw_3_43, ⟨by decide, by decide⟩, by decide +kernel⟩, mw_3_42⟩
def mL_first : Mt := (yL_first, cL_first, 7, (some .int), 3, 71)
set_option maxRecDepth 20000 in
theorem ok_L_first : okS mL_first 5 := ⟨⟨mw_1_0, mw_3_40, ⟨by decide, by decide⟩, by decide +kernel⟩, mw_3_39⟩
def mL_isThere : Mt := (yL_isThere, cL_isThere, 8, (some .boolean), 1, 21)
set_option maxRecDepth 20000 in
theorem ok_L_isThere : okS mL_isThere 5 := ⟨⟨mw_1_0, mw_4_5, ⟨by decide, by decide⟩, by decide +kernel⟩, mw_4_4⟩
def mL_isRead : Mt := (yL_isRead, cL_isRead, 11, (some .boolean), 1, 21)
set_option maxRecDepth 20000 in
theorem ok_L_isRead : okS mL_isRead 8 := ⟨⟨mw_1_0, mw_4_13, ⟨by decide, by decide⟩, by decide +kernel⟩, mw_4_12⟩
def mL_puts : Mt := (yL_puts, cL_puts, 6, (some .boolean), 0, 0)
set_option maxRecDepth 20000 in
theorem ok_L_puts : okS mL_puts 6 := ⟨⟨mw_1_0, mw_4_10, ⟨by decide, by decide⟩, by decide +kernel⟩, mw_4_9⟩
def mL_isDone : Mt := (yL_isDone, cL_isDone, 12, (some .boolean), 2, 51)
set_option maxRecDepth 20000 in
theorem ok_L_isDone : okS mL_isDone 7 := ⟨⟨mw_1_0, mw_4_2, ⟨by decide, by decide⟩, by decide +kernel⟩, mw_4_1⟩
def mL_ticks : Mt := (yL_ticks, cL_ticks, 9, (some .int), 4, 97)
set_option maxRecDepth 20000 in
theorem ok_L_ticks : okS mL_ticks 7 := ⟨⟨mw_1_0, mw_3_239, ⟨by decide, by decide⟩, by decide +kernel⟩, mw_3_238⟩
def mL_areItems : Mt := (yL_areItems, cL_areItems, 11, (some .boolean), 3, 67)
set_option maxRecDepth 20000 in
theorem ok_L_areItems : okS mL_areItems 6 := ⟨⟨mw_1_0, mw_2_124, ⟨by decide, by decide⟩, by decide +kernel⟩, mw_2_123⟩
def mL_areDrives : Mt := (yL_areDrives, cL_areDrives, 6, (some .boolean), 3, 64)
set_option maxRecDepth 20000 in
theorem ok_L_areDrives : okS mL_areDrives 4 := ⟨⟨mw_1_0, mw_2_168, ⟨by decide, by decide⟩, by decide +kernel⟩, mw_2_167⟩
def mL_areJobs : Mt := (yL_areJobs, cL_areJobs, 6, (some .boolean), 2, 45)
set_option maxRecDepth 20000 in
theorem ok_L_areJobs : okS mL_areJobs 4 := ⟨⟨mw_1_0, mw_2_210, ⟨by decide, by decide⟩, by decide +kernel⟩, mw_2_209⟩
def mL_areCounts : Mt := (yL_areCounts, cL_areCounts, 9, (some .boolean), 5, 114)
set_option maxRecDepth 20000 in
theorem ok_L_areCounts : okS mL_areCounts 6 := ⟨⟨mw_1_0, mw_2_225, ⟨by decide, by decide⟩, by decide +kernel⟩, mw_2_224⟩
def mL_adds : Mt := (yL_adds, cL_adds, 10, (some .boolean), 5, 115)
set_option maxRecDepth 20000 in
theorem ok_L_adds : okS mL_adds 4 := ⟨⟨mw_1_0, mw_3_64, ⟨by decide, by decide⟩, by decide +kernel⟩, mw_3_63⟩
def mL_builds : Mt := (yL_builds, cL_builds, 8, (some .boolean), 5, 114)
set_option maxRecDepth 20000 in
theorem ok_L_builds : okS mL_builds 5 := ⟨⟨mw_1_0, mw_3_143, ⟨by decide, by decide⟩, by decide +kernel⟩, mw_3_142⟩
def mL_gives : Mt := (yL_gives, cL_gives, 12, (some .boolean), 6, 138)
set_option maxRecDepth 20000 in
theorem ok_L_gives : okS mL_gives 6 := ⟨⟨mw_1_0, mw_3_164, ⟨by decide, by decide⟩, by decide +kernel⟩, mw_3_163⟩
def mL_holds : Mt := (yL_holds, cL_holds, 9, (some .boolean), 5, 116)
set_option maxRecDepth 20000 in
theorem ok_L_holds : okS mL_holds 5 := ⟨⟨mw_1_0, mw_3_197, ⟨by decide, by decide⟩, by decide +kernel⟩, mw_3_196⟩
def mL_sets : Mt := (yL_sets, cL_sets, 8, (some .boolean), 5, 116)
set_option maxRecDepth 20000 in
theorem ok_L_sets : okS mL_sets 5 := ⟨⟨mw_1_0, mw_3_208, ⟨by decide, by decide⟩, by decide +kernel⟩, mw_3_207⟩
def mL_passes : Mt := (yL_passes, cL_passes, 11, (some .boolean), 7, 161)
set_option maxRecDepth 20000 in
theorem ok_L_passes : okS mL_passes 9 := ⟨⟨mw_1_0, mw_3_236, ⟨by decide, by decide⟩, by decide +kernel⟩, mw_3_235⟩
def mL_law : Mt := (yL_law, cL_law, 12, (some .boolean), 10, 388)
