def wl_J7_copyOf_9075b : List Nat := []
def wf_J7_copyOf_9075b : List (Nat × Nat) := []
def wl_X0_beginClass : List Nat := [46, 47, 48]
def wf_X0_beginClass : List (Nat × Nat) := [(45, 4), (45, 5), (45, 7)]
def wl_X0_beginProgram : List Nat := []
def wf_X0_beginProgram : List (Nat × Nat) := [(33, 7)]
def wl_X0_checkTwice : List Nat := []
def wf_X0_checkTwice : List (Nat × Nat) := [(2, 11), (2, 12)]
def wl_X0_closeAlone : List Nat := [35]
def wf_X0_closeAlone : List (Nat × Nat) := [(2, 11), (2, 12), (34, 1), (34, 3)]
def wl_X0_closeClass : List Nat := [43]
def wf_X0_closeClass : List (Nat × Nat) := [(33, 7)]
def wl_X0_closeGiving : List Nat := [35, 46, 47]
def wf_X0_closeGiving : List (Nat × Nat) := [(34, 1), (34, 3), (45, 4), (45, 5)]
def wl_X0_closeProgram : List Nat := []
def wf_X0_closeProgram : List (Nat × Nat) := [(2, 11), (2, 12)]
def wl_X0_makeMethod : List Nat := [35, 36, 37, 38, 39, 40, 41, 42, 44, 46, 47, 48, 50, 51, 52, 53, 54]
def wf_X0_makeMethod : List (Nat × Nat) := [(2, 10), (2, 11), (2, 12), (33, 7), (33, 8), (33, 9), (33, 10), (33, 12), (34, 1), (34, 3), (34, 4), (34, 7), (34, 8), (34, 10), (34, 14), (34, 15), (45, 4), (45, 5), (45, 7), (49, 10), (49, 11), (49, 12), (49, 13), (49, 14), (49, 15), (49, 16), (49, 17), (49, 18)]
def wl_X0_noteMuch : List Nat := []
def wf_X0_noteMuch : List (Nat × Nat) := [(33, 7)]
def wl_X0_readBlock : List Nat := [35, 36, 37, 38, 39, 40, 41, 42, 44, 46, 47, 50, 51, 52, 53, 54]
def wf_X0_readBlock : List (Nat × Nat) := [(2, 10), (2, 11), (2, 12), (33, 9), (33, 10), (33, 12), (34, 1), (34, 3), (34, 4), (34, 7), (34, 8), (34, 10), (34, 14), (34, 15), (45, 4), (45, 5), (49, 10), (49, 11), (49, 12), (49, 13), (49, 14), (49, 15), (49, 18)]
def wl_X0_readIf : List Nat := [35, 36, 37, 38, 39, 40, 41, 42, 44, 46, 47, 50, 51, 52, 53, 54]
def wf_X0_readIf : List (Nat × Nat) := [(2, 10), (2, 11), (2, 12), (33, 9), (33, 10), (33, 12), (34, 1), (34, 3), (34, 4), (34, 7), (34, 8), (34, 10), (34, 14), (34, 15), (45, 4), (45, 5), (49, 10), (49, 11), (49, 12), (49, 13), (49, 14), (49, 15), (49, 18)]
def wl_X0_readLeave : List Nat := [35, 40, 41, 42, 44]
def wf_X0_readLeave : List (Nat × Nat) := [(2, 10), (2, 11), (2, 12), (33, 12), (34, 1), (34, 3), (34, 14), (34, 15)]
def wl_X0_readPart : List Nat := [35, 36, 37, 38, 39, 40, 41, 42, 44, 46, 47, 50, 51, 52, 53, 54]
def wf_X0_readPart : List (Nat × Nat) := [(2, 10), (2, 11), (2, 12), (33, 9), (33, 10), (33, 12), (34, 1), (34, 3), (34, 4), (34, 7), (34, 8), (34, 10), (34, 14), (34, 15), (45, 4), (45, 5), (49, 10), (49, 11), (49, 12), (49, 13), (49, 14), (49, 15), (49, 18)]
def wl_X0_readPlain : List Nat := [35, 36, 40, 41, 42, 46, 47, 50, 51, 52, 53, 54]
def wf_X0_readPlain : List (Nat × Nat) := [(2, 10), (2, 11), (2, 12), (34, 1), (34, 3), (34, 4), (34, 14), (34, 15), (45, 4), (45, 5), (49, 10), (49, 11), (49, 12), (49, 13), (49, 14), (49, 15), (49, 18)]
def wl_X0_readPrint : List Nat := [35, 36, 40, 41, 42, 46, 47, 50, 51, 52, 53, 54]
def wf_X0_readPrint : List (Nat × Nat) := [(2, 10), (2, 11), (2, 12), (34, 1), (34, 3), (34, 4), (34, 14), (34, 15), (45, 4), (45, 5), (49, 10), (49, 11), (49, 12), (49, 13), (49, 14), (49, 15)]
def wl_X0_readReturn : List Nat := [35, 36, 40, 41, 42, 46, 47, 50, 51, 52, 53, 54]
def wf_X0_readReturn : List (Nat × Nat) := [(2, 10), (2, 11), (2, 12), (34, 1), (34, 3), (34, 4), (34, 14), (34, 15), (45, 4), (45, 5), (49, 10), (49, 11), (49, 12), (49, 13), (49, 14), (49, 15)]
def wl_X0_readStatement : List Nat := [35, 36, 37, 38, 39, 40, 41, 42, 44, 46, 47, 50, 51, 52, 53, 54]
def wf_X0_readStatement : List (Nat × Nat) := [(2, 10), (2, 11), (2, 12), (33, 9), (33, 10), (33, 12), (34, 1), (34, 3), (34, 4), (34, 7), (34, 8), (34, 10), (34, 14), (34, 15), (45, 4), (45, 5), (49, 10), (49, 11), (49, 12), (49, 13), (49, 14), (49, 15), (49, 18)]
def wl_X0_readThrow : List Nat := [35, 36, 40, 41, 42, 46, 47, 50, 51, 52, 53, 54]
def wf_X0_readThrow : List (Nat × Nat) := [(2, 10), (2, 11), (2, 12), (34, 1), (34, 3), (34, 4), (34, 14), (34, 15), (45, 4), (45, 5), (49, 10), (49, 11), (49, 12), (49, 13), (49, 14), (49, 15)]
def wl_X0_readTry : List Nat := [35, 36, 37, 38, 39, 40, 41, 42, 44, 46, 47, 50, 51, 52, 53, 54]
def wf_X0_readTry : List (Nat × Nat) := [(2, 10), (2, 11), (2, 12), (33, 9), (33, 10), (33, 12), (34, 1), (34, 3), (34, 4), (34, 7), (34, 8), (34, 10), (34, 14), (34, 15), (45, 4), (45, 5), (49, 10), (49, 11), (49, 12), (49, 13), (49, 14), (49, 15), (49, 18)]
def wl_X0_readVariable : List Nat := [35, 36, 37, 38, 40, 41, 42, 46, 47, 50, 51, 52, 53, 54]
def wf_X0_readVariable : List (Nat × Nat) := [(2, 10), (2, 11), (2, 12), (34, 1), (34, 3), (34, 4), (34, 7), (34, 8), (34, 14), (34, 15), (45, 4), (45, 5), (49, 10), (49, 11), (49, 12), (49, 13), (49, 14), (49, 15)]
def wl_X0_readWhile : List Nat := [35, 36, 37, 38, 39, 40, 41, 42, 44, 46, 47, 50, 51, 52, 53, 54]
def wf_X0_readWhile : List (Nat × Nat) := [(2, 10), (2, 11), (2, 12), (33, 9), (33, 10), (33, 12), (34, 1), (34, 3), (34, 4), (34, 7), (34, 8), (34, 10), (34, 14), (34, 15), (45, 4), (45, 5), (49, 10), (49, 11), (49, 12), (49, 13), (49, 14), (49, 15), (49, 18)]
def wl_X10_beginMethod : List Nat := []
def wf_X10_beginMethod : List (Nat × Nat) := [(49, 10), (49, 16), (49, 17), (49, 18)]
def wl_X10_closeCall : List Nat := [36]
def wf_X10_closeCall : List (Nat × Nat) := [(2, 11), (2, 12), (34, 3), (34, 4), (49, 11), (49, 12)]
def wl_X10_closeCast : List Nat := [35, 36, 46, 47]
def wf_X10_closeCast : List (Nat × Nat) := [(2, 11), (2, 12), (34, 1), (34, 3), (34, 4), (45, 4), (45, 5), (49, 11), (49, 12)]
def wl_X10_closeShort : List Nat := [35, 36, 40, 41, 42]
def wf_X10_closeShort : List (Nat × Nat) := [(2, 11), (2, 12), (34, 1), (34, 3), (34, 4), (34, 14), (34, 15), (49, 12)]
def wl_X10_closeSign : List Nat := [35, 36, 40, 41, 42]
def wf_X10_closeSign : List (Nat × Nat) := [(2, 11), (2, 12), (34, 1), (34, 3), (34, 4), (34, 14), (34, 15), (49, 10), (49, 11), (49, 12), (49, 15)]
def wl_X10_closeUnary : List Nat := [35, 36, 40, 41, 42]
def wf_X10_closeUnary : List (Nat × Nat) := [(2, 11), (2, 12), (34, 1), (34, 3), (34, 4), (34, 14), (34, 15), (49, 11)]
def wl_X10_fetch : List Nat := [35, 36, 46, 47]
def wf_X10_fetch : List (Nat × Nat) := [(34, 1), (34, 3), (34, 4), (45, 4), (45, 5), (49, 11)]
def wl_X10_give : List Nat := [36]
def wf_X10_give : List (Nat × Nat) := [(34, 3), (34, 4), (49, 11), (49, 12)]
def wl_X10_giveThis : List Nat := [35, 36]
def wf_X10_giveThis : List (Nat × Nat) := [(2, 11), (2, 12), (34, 1), (34, 3), (34, 4), (49, 11), (49, 12)]
def wl_X10_methodNamed : List Nat := []
def wf_X10_methodNamed : List (Nat × Nat) := [(2, 11), (2, 12)]
def wl_X10_nameField : List Nat := []
def wf_X10_nameField : List (Nat × Nat) := [(49, 11), (49, 12), (49, 13), (49, 14)]
def wl_X10_openSign : List Nat := [35, 50, 51, 52, 53, 54]
def wf_X10_openSign : List (Nat × Nat) := [(2, 10), (2, 11), (2, 12), (34, 1), (34, 3), (49, 10)]
def wl_X10_readBehindPoint : List Nat := [35, 36, 40, 41, 42, 46, 47, 50, 51, 52, 53, 54]
def wf_X10_readBehindPoint : List (Nat × Nat) := [(2, 10), (2, 11), (2, 12), (34, 1), (34, 3), (34, 4), (34, 14), (34, 15), (45, 4), (45, 5), (49, 10), (49, 11), (49, 12), (49, 13), (49, 14), (49, 15)]
def wl_X10_readCall : List Nat := [35, 36, 40, 41, 42, 46, 47, 50, 51, 52, 53, 54]
def wf_X10_readCall : List (Nat × Nat) := [(2, 10), (2, 11), (2, 12), (34, 1), (34, 3), (34, 4), (34, 14), (34, 15), (45, 4), (45, 5), (49, 10), (49, 11), (49, 12), (49, 13), (49, 14), (49, 15)]
def wl_X10_readChoice : List Nat := [35, 36, 40, 41, 42, 46, 47, 50, 51, 52, 53, 54]
def wf_X10_readChoice : List (Nat × Nat) := [(2, 10), (2, 11), (2, 12), (34, 1), (34, 3), (34, 4), (34, 14), (34, 15), (45, 4), (45, 5), (49, 10), (49, 11), (49, 12), (49, 13), (49, 14), (49, 15)]
def wl_X10_readCondition : List Nat := [35, 36, 40, 41, 42, 46, 47, 50, 51, 52, 53, 54]
def wf_X10_readCondition : List (Nat × Nat) := [(2, 10), (2, 11), (2, 12), (34, 1), (34, 3), (34, 4), (34, 14), (34, 15), (45, 4), (45, 5), (49, 10), (49, 11), (49, 12), (49, 13), (49, 14), (49, 15)]
def wl_X10_readConstant : List Nat := [35, 36, 46, 47]
def wf_X10_readConstant : List (Nat × Nat) := [(2, 10), (2, 11), (2, 12), (34, 1), (34, 3), (34, 4), (45, 4), (45, 5), (49, 11), (49, 12)]
def wl_X10_readElement : List Nat := [35, 36, 40, 41, 42, 46, 47, 50, 51, 52, 53, 54]
def wf_X10_readElement : List (Nat × Nat) := [(2, 10), (2, 11), (2, 12), (34, 1), (34, 3), (34, 4), (34, 14), (34, 15), (45, 4), (45, 5), (49, 10), (49, 11), (49, 12), (49, 13), (49, 14), (49, 15)]
def wl_X10_readInstanceof : List Nat := [35, 36, 46, 47]
def wf_X10_readInstanceof : List (Nat × Nat) := [(2, 10), (2, 11), (2, 12), (34, 1), (34, 3), (34, 4), (45, 4), (45, 5), (49, 11), (49, 12)]
def wl_X10_readNamed : List Nat := [35, 36, 40, 41, 42, 46, 47, 50, 51, 52, 53, 54]
def wf_X10_readNamed : List (Nat × Nat) := [(2, 10), (2, 11), (2, 12), (34, 1), (34, 3), (34, 4), (34, 14), (34, 15), (45, 4), (45, 5), (49, 10), (49, 11), (49, 12), (49, 13), (49, 14), (49, 15)]
def wl_X10_readNamedClass : List Nat := []
def wf_X10_readNamedClass : List (Nat × Nat) := [(2, 10), (2, 11), (2, 12)]
def wl_X10_readNew : List Nat := [35, 36, 40, 41, 42, 46, 47, 50, 51, 52, 53, 54]
def wf_X10_readNew : List (Nat × Nat) := [(2, 10), (2, 11), (2, 12), (34, 1), (34, 3), (34, 4), (34, 14), (34, 15), (45, 4), (45, 5), (49, 10), (49, 11), (49, 12), (49, 13), (49, 14), (49, 15)]
def wl_X10_readNumber : List Nat := [35, 36, 46, 47]
def wf_X10_readNumber : List (Nat × Nat) := [(34, 1), (34, 3), (34, 4), (45, 4), (45, 5), (49, 11), (49, 12)]
def wl_X10_readPrimary : List Nat := [35, 36, 40, 41, 42, 46, 47, 50, 51, 52, 53, 54]
def wf_X10_readPrimary : List (Nat × Nat) := [(2, 10), (2, 11), (2, 12), (34, 1), (34, 3), (34, 4), (34, 14), (34, 15), (45, 4), (45, 5), (49, 10), (49, 11), (49, 12), (49, 13), (49, 14), (49, 15)]
def wl_X10_readUnary : List Nat := [35, 36, 40, 41, 42, 46, 47, 50, 51, 52, 53, 54]
def wf_X10_readUnary : List (Nat × Nat) := [(2, 10), (2, 11), (2, 12), (34, 1), (34, 3), (34, 4), (34, 14), (34, 15), (45, 4), (45, 5), (49, 10), (49, 11), (49, 12), (49, 13), (49, 14), (49, 15)]
def wl_X10_readValue : List Nat := [35, 36, 40, 41, 42, 46, 47, 50, 51, 52, 53, 54]
def wf_X10_readValue : List (Nat × Nat) := [(2, 10), (2, 11), (2, 12), (34, 1), (34, 3), (34, 4), (34, 14), (34, 15), (45, 4), (45, 5), (49, 10), (49, 11), (49, 12), (49, 13), (49, 14), (49, 15)]
def wl_X10_readWhole : List Nat := [35, 36, 40, 41, 42, 46, 47, 50, 51, 52, 53, 54]
def wf_X10_readWhole : List (Nat × Nat) := [(2, 10), (2, 11), (2, 12), (34, 1), (34, 3), (34, 4), (34, 14), (34, 15), (45, 4), (45, 5), (49, 10), (49, 11), (49, 12), (49, 13), (49, 14), (49, 15)]
def wl_X10_wantKinOf : List Nat := []
def wf_X10_wantKinOf : List (Nat × Nat) := [(2, 11), (2, 12)]
def wl_X10_wantType : List Nat := []
def wf_X10_wantType : List (Nat × Nat) := [(2, 11), (2, 12)]
def wl_X11_applyArray : List Nat := [135]
def wf_X11_applyArray : List (Nat × Nat) := [(127, 18), (127, 19)]
def wl_X11_applyJump : List Nat := []
def wf_X11_applyJump : List (Nat × Nat) := [(127, 18), (127, 19)]
def wl_X11_applyLocal : List Nat := [134, 135]
def wf_X11_applyLocal : List (Nat × Nat) := [(127, 18), (127, 19)]
def wl_X11_applyMember : List Nat := [135]
def wf_X11_applyMember : List (Nat × Nat) := [(127, 18), (127, 19)]
def wl_X11_applyObject : List Nat := [135]
def wf_X11_applyObject : List (Nat × Nat) := [(127, 18), (127, 19)]
def wl_X11_applyReturn : List Nat := []
def wf_X11_applyReturn : List (Nat × Nat) := [(127, 18), (127, 19)]
def wl_X11_applySimple : List Nat := [134, 135]
def wf_X11_applySimple : List (Nat × Nat) := [(127, 18), (127, 19)]
def wl_X11_areKindsThere : List Nat := [131]
def wf_X11_areKindsThere : List (Nat × Nat) := []
def wl_X11_at : List Nat := []
def wf_X11_at : List (Nat × Nat) := [(127, 7)]
def wl_X11_beginState : List Nat := [131, 134]
def wf_X11_beginState : List (Nat × Nat) := [(127, 17), (127, 18), (127, 20)]
def wl_X11_pop : List Nat := []
def wf_X11_pop : List (Nat × Nat) := [(127, 18), (127, 19)]
def wl_X11_proveFrames : List Nat := []
def wf_X11_proveFrames : List (Nat × Nat) := [(127, 7)]
def wl_X11_proveHandlers : List Nat := []
def wf_X11_proveHandlers : List (Nat × Nat) := [(127, 7)]
def wl_X11_proveHeads : List Nat := [131]
def wf_X11_proveHeads : List (Nat × Nat) := [(127, 2), (127, 3), (127, 4), (127, 5)]
def wl_X11_proveInstructions : List Nat := [132]
def wf_X11_proveInstructions : List (Nat × Nat) := [(127, 7), (127, 16)]
def wl_X11_proveJumps : List Nat := []
def wf_X11_proveJumps : List (Nat × Nat) := [(127, 7)]
def wl_X11_proveMethods : List Nat := [128, 129, 130, 131, 132, 133, 134, 135]
def wf_X11_proveMethods : List (Nat × Nat) := [(127, 2), (127, 3), (127, 4), (127, 5), (127, 6), (127, 7), (127, 16), (127, 17), (127, 18), (127, 19), (127, 20)]
def wl_X11_proveState : List Nat := [134, 135]
def wf_X11_proveState : List (Nat × Nat) := [(127, 18), (127, 19)]
def wl_X11_proveStates : List Nat := [134, 135]
def wf_X11_proveStates : List (Nat × Nat) := [(127, 7), (127, 18), (127, 19)]
def wl_X11_push : List Nat := [135]
def wf_X11_push : List (Nat × Nat) := [(127, 18), (127, 19)]
def wl_X11_takeConstants : List Nat := [128, 129, 130, 131]
def wf_X11_takeConstants : List (Nat × Nat) := []
def wl_X11_takeFrame : List Nat := [134, 135]
def wf_X11_takeFrame : List (Nat × Nat) := [(127, 18)]
def wl_X11_takeFrames : List Nat := [132, 133]
def wf_X11_takeFrames : List (Nat × Nat) := []
def wl_X11_takeImage : List Nat := []
def wf_X11_takeImage : List (Nat × Nat) := [(127, 5)]
def wl_X11_takeMember : List Nat := [129, 130, 131]
def wf_X11_takeMember : List (Nat × Nat) := []
def wl_X11_takeTypes : List Nat := [133]
def wf_X11_takeTypes : List (Nat × Nat) := []
def wl_X11_tellNumber : List Nat := []
def wf_X11_tellNumber : List (Nat × Nat) := [(127, 2), (127, 3), (127, 4)]
def wl_X11_want : List Nat := []
def wf_X11_want : List (Nat × Nat) := [(127, 18), (127, 19)]
def wl_X11_wantArray : List Nat := []
def wf_X11_wantArray : List (Nat × Nat) := [(127, 18), (127, 19)]
def wl_X11_wantReference : List Nat := []
def wf_X11_wantReference : List (Nat × Nat) := [(127, 18), (127, 19)]
def wl_X12_clear : List Nat := [58, 59]
def wf_X12_clear : List (Nat × Nat) := [(56, 3), (56, 4), (143, 1), (143, 2), (143, 3), (143, 4), (143, 5), (143, 6), (143, 7)]
def wl_X12_compile : List Nat := [3, 4, 5, 6, 7, 8, 9, 13, 14, 15, 16, 17, 18, 19, 20, 21, 22, 23, 24, 25, 26, 27, 28, 29, 30, 31, 35, 36, 37, 38, 39, 40, 41, 42, 43, 44, 46, 47, 48, 50, 51, 52, 53, 54, 55]
def wf_X12_compile : List (Nat × Nat) := [(0, 1), (0, 7), (2, 3), (2, 9), (2, 10), (2, 11), (2, 12), (11, 2), (11, 20), (33, 7), (33, 8), (33, 9), (33, 10), (33, 12), (34, 1), (34, 3), (34, 4), (34, 7), (34, 8), (34, 10), (34, 14), (34, 15), (45, 4), (45, 5), (45, 7), (49, 10), (49, 11), (49, 12), (49, 13), (49, 14), (49, 15), (49, 16), (49, 17), (49, 18)]
def wl_X12_end : List Nat := []
def wf_X12_end : List (Nat × Nat) := [(0, 1)]
def wl_X12_feed : List Nat := [1]
def wf_X12_feed : List (Nat × Nat) := [(0, 1)]
def wl_X12_keep : List Nat := [58, 59, 60]
def wf_X12_keep : List (Nat × Nat) := [(56, 2), (56, 3), (56, 4), (143, 1), (143, 2), (143, 3), (143, 4), (143, 5), (143, 6), (143, 7)]
def wl_X12_load : List Nat := [58, 59, 60]
def wf_X12_load : List (Nat × Nat) := [(0, 1), (56, 2), (56, 3), (56, 4), (143, 1), (143, 2), (143, 3), (143, 4), (143, 5), (143, 6), (143, 7)]
def wl_X12_patch : List Nat := [58, 59, 60]
def wf_X12_patch : List (Nat × Nat) := [(56, 2), (56, 4), (143, 1), (143, 2), (143, 3), (143, 4), (143, 5), (143, 6), (143, 7)]
def wl_X12_putNumber : List Nat := [1]
def wf_X12_putNumber : List (Nat × Nat) := [(0, 1)]
def wl_X12_run : List Nat := [144, 145, 146, 147, 148, 149, 150, 151, 152]
def wf_X12_run : List (Nat × Nat) := [(143, 1), (143, 2), (143, 3), (143, 4), (143, 5), (143, 6), (143, 7), (143, 17), (143, 18), (143, 19), (143, 20)]
def wl_X12_start : List Nat := [148, 149, 150, 151]
def wf_X12_start : List (Nat × Nat) := [(143, 1), (143, 2), (143, 3), (143, 4), (143, 5), (143, 6), (143, 7), (143, 17), (143, 18), (143, 19)]
def wl_X12_takeImages : List Nat := [55]
def wf_X12_takeImages : List (Nat × Nat) := [(0, 7)]
def wl_X12_verify : List Nat := [68, 69, 70, 128, 129, 130, 131, 132, 133, 134, 135]
def wf_X12_verify : List (Nat × Nat) := [(56, 4), (127, 2), (127, 3), (127, 4), (127, 5), (127, 6), (127, 7), (127, 16), (127, 17), (127, 18), (127, 19), (127, 20)]
def wl_X13_add : List Nat := [167, 168, 169, 170, 171, 172, 173, 174, 175, 176, 177]
def wf_X13_add : List (Nat × Nat) := [(160, 22)]
def wl_X13_again : List Nat := [228, 229, 230, 231, 232, 233, 234, 235, 236, 237]
def wf_X13_again : List (Nat × Nat) := []
def wl_X13_arguments : List Nat := [167, 168, 169, 170, 171, 172, 173, 174, 175, 176, 177]
def wf_X13_arguments : List (Nat × Nat) := [(160, 9), (160, 10), (160, 22), (160, 23)]
def wl_X13_aside : List Nat := [239]
def wf_X13_aside : List (Nat × Nat) := []
def wl_X13_assign : List Nat := [199, 200, 201, 202, 203, 204, 205, 206, 207, 208, 209, 210, 211, 212, 217, 218]
def wf_X13_assign : List (Nat × Nat) := [(160, 57), (160, 62), (160, 64), (160, 66), (160, 68), (160, 70), (160, 71), (160, 78), (160, 79), (160, 87), (160, 88)]
def wl_X13_at_ : List Nat := []
def wf_X13_at_ : List (Nat × Nat) := [(160, 129), (160, 130), (160, 132), (160, 133), (160, 134), (160, 135)]
def wl_X13_back : List Nat := [253, 254, 255]
def wf_X13_back : List (Nat × Nat) := [(160, 138), (160, 139), (160, 149)]
def wl_X13_bad : List Nat := []
def wf_X13_bad : List (Nat × Nat) := [(160, 122), (160, 123), (160, 124), (160, 125)]
def wl_X13_becomes : List Nat := [240, 241, 243, 244]
def wf_X13_becomes : List (Nat × Nat) := [(160, 117), (160, 120), (160, 131)]
def wl_X13_block : List Nat := [167, 168, 169, 170, 171, 172, 173, 174, 175, 176, 177]
def wf_X13_block : List (Nat × Nat) := [(160, 9), (160, 10), (160, 22), (160, 23), (160, 45), (160, 46), (160, 47)]
def wl_X13_bodies : List Nat := [174, 175, 176, 196, 197, 198, 199]
def wf_X13_bodies : List (Nat × Nat) := [(160, 9), (160, 10), (160, 50), (160, 51), (160, 52), (160, 53), (160, 54), (160, 57)]
def wl_X13_both : List Nat := [174, 175, 176, 199]
def wf_X13_both : List (Nat × Nat) := [(160, 9), (160, 10), (160, 57)]
def wl_X13_call : List Nat := [246, 247, 248, 249, 251, 252, 253, 254, 255]
def wf_X13_call : List (Nat × Nat) := [(160, 121), (160, 138), (160, 139), (160, 141), (160, 142), (160, 149)]
def wl_X13_called : List Nat := [174, 175, 176, 199]
def wf_X13_called : List (Nat × Nat) := [(160, 9), (160, 10), (160, 57)]
def wl_X13_calls : List Nat := [240, 241, 244, 245]
def wf_X13_calls : List (Nat × Nat) := [(160, 117), (160, 120), (160, 131)]
def wl_X13_checkConstant : List Nat := []
def wf_X13_checkConstant : List (Nat × Nat) := [(160, 114)]
def wl_X13_classConstant : List Nat := [200, 201, 202, 203, 204, 205]
def wf_X13_classConstant : List (Nat × Nat) := [(160, 62), (160, 64), (160, 66)]
def wl_X13_classFits : List Nat := [240, 241]
def wf_X13_classFits : List (Nat × Nat) := [(160, 117), (160, 120), (160, 121), (160, 122), (160, 123), (160, 124), (160, 125)]
def wl_X13_clear : List Nat := []
def wf_X13_clear : List (Nat × Nat) := [(160, 98), (160, 99), (160, 138)]
def wl_X13_come : List Nat := [196, 197]
def wf_X13_come : List (Nat × Nat) := [(160, 50)]
def wl_X13_comes : List Nat := [196, 197]
def wf_X13_comes : List (Nat × Nat) := [(160, 50), (160, 72)]
def wl_X13_comesBack : List Nat := [244]
def wf_X13_comesBack : List (Nat × Nat) := [(160, 131)]
def wl_X13_compile : List Nat := [162, 163, 164, 165, 166, 167, 168, 169, 170, 171, 172, 173, 174, 175, 176, 177, 178, 179, 180, 181, 182, 183, 184, 185, 186, 187, 188, 189, 190, 191, 192, 193, 194, 195, 196, 197, 198, 199, 200, 201, 202, 203, 204, 205, 206, 207, 208, 209, 210, 211, 212, 213, 214, 215, 216, 217, 218, 219, 220, 221, 222, 223, 224, 225]
def wf_X13_compile : List (Nat × Nat) := [(160, 1), (160, 3), (160, 8), (160, 9), (160, 10), (160, 22), (160, 23), (160, 24), (160, 28), (160, 39), (160, 45), (160, 46), (160, 47), (160, 50), (160, 51), (160, 52), (160, 53), (160, 54), (160, 57), (160, 62), (160, 64), (160, 66), (160, 68), (160, 70), (160, 71), (160, 72), (160, 78), (160, 79), (160, 84), (160, 87), (160, 88), (160, 93), (160, 97)]
def wl_X13_condition : List Nat := [174, 175, 176, 199]
def wf_X13_condition : List (Nat × Nat) := [(160, 9), (160, 10), (160, 57)]
def wl_X13_constant : List Nat := [200, 201, 202, 203]
def wf_X13_constant : List (Nat × Nat) := [(160, 62)]
def wl_X13_drop : List Nat := [254]
def wf_X13_drop : List (Nat × Nat) := []
def wl_X13_element : List Nat := [246, 247, 248, 249, 253, 254, 255]
def wf_X13_element : List (Nat × Nat) := [(160, 138), (160, 139), (160, 141), (160, 142), (160, 149)]
def wl_X13_end : List Nat := []
def wf_X13_end : List (Nat × Nat) := [(160, 1)]
def wl_X13_enter : List Nat := [251, 252, 253, 254, 255]
def wf_X13_enter : List (Nat × Nat) := [(160, 149)]
def wl_X13_expression : List Nat := [167, 168, 169, 170, 171, 172, 173, 174, 175, 176, 177]
def wf_X13_expression : List (Nat × Nat) := [(160, 9), (160, 10), (160, 22), (160, 23)]
def wl_X13_fails : List Nat := [246, 247, 248, 249, 253, 254, 255]
def wf_X13_fails : List (Nat × Nat) := [(160, 138), (160, 139), (160, 141), (160, 142), (160, 149)]
def wl_X13_feed : List Nat := [161]
def wf_X13_feed : List (Nat × Nat) := [(160, 1)]
def wl_X13_field : List Nat := [175]
def wf_X13_field : List (Nat × Nat) := [(160, 9), (160, 10)]
def wl_X13_fieldOf : List Nat := [246, 247, 248, 249, 253, 254, 255]
def wf_X13_fieldOf : List (Nat × Nat) := [(160, 121), (160, 138), (160, 139), (160, 141), (160, 142), (160, 149)]
def wl_X13_flows : List Nat := [240, 241, 243, 244, 245]
def wf_X13_flows : List (Nat × Nat) := [(160, 117), (160, 120), (160, 121), (160, 122), (160, 123), (160, 124), (160, 125), (160, 131), (160, 136)]
def wl_X13_frame : List Nat := [208, 209, 210, 211, 212]
def wf_X13_frame : List (Nat × Nat) := [(160, 78), (160, 79)]
def wl_X13_frameIsThere : List Nat := [240, 241]
def wf_X13_frameIsThere : List (Nat × Nat) := [(160, 117), (160, 120)]
def wl_X13_framed : List Nat := [240, 241]
def wf_X13_framed : List (Nat × Nat) := [(160, 117), (160, 120)]
def wl_X13_fresh : List Nat := [167, 168, 169, 170, 171, 172, 173, 174, 175, 176, 177]
def wf_X13_fresh : List (Nat × Nat) := [(160, 9), (160, 10), (160, 22), (160, 23)]
def wl_X13_fresh_ : List Nat := [246, 247, 248, 249, 253, 254, 255]
def wf_X13_fresh_ : List (Nat × Nat) := [(160, 138), (160, 139), (160, 141), (160, 142), (160, 149)]
def wl_X13_give : List Nat := [254, 255]
def wf_X13_give : List (Nat × Nat) := []
def wl_X13_given : List Nat := [174, 175, 176, 199]
def wf_X13_given : List (Nat × Nat) := [(160, 9), (160, 10), (160, 57)]
def wl_X13_guard : List Nat := [196, 197, 199, 200, 201, 202, 203, 204, 205, 206, 207, 208, 209, 210, 211, 212, 213, 214, 215, 216, 217, 218, 219, 220]
def wf_X13_guard : List (Nat × Nat) := [(160, 50), (160, 54), (160, 57), (160, 62), (160, 64), (160, 66), (160, 68), (160, 70), (160, 71), (160, 72), (160, 78), (160, 79), (160, 84), (160, 87), (160, 88)]
def wl_X13_handled : List Nat := [240, 241]
def wf_X13_handled : List (Nat × Nat) := [(160, 117), (160, 120)]
def wl_X13_handlerFits : List Nat := [240, 241]
def wf_X13_handlerFits : List (Nat × Nat) := [(160, 117), (160, 120)]
def wl_X13_heads : List Nat := [180, 187, 195]
def wf_X13_heads : List (Nat × Nat) := [(160, 9), (160, 10)]
def wl_X13_holder : List Nat := []
def wf_X13_holder : List (Nat × Nat) := [(160, 121)]
def wl_X13_install : List Nat := [226, 227]
def wf_X13_install : List (Nat × Nat) := []
def wl_X13_invoked : List Nat := [174, 175, 176, 199]
def wf_X13_invoked : List (Nat × Nat) := [(160, 9), (160, 10), (160, 57)]
def wl_X13_is : List Nat := [246, 247, 248, 249, 253, 254, 255]
def wf_X13_is : List (Nat × Nat) := [(160, 138), (160, 139), (160, 141), (160, 142), (160, 149)]
def wl_X13_isByte : List Nat := []
def wf_X13_isByte : List (Nat × Nat) := [(160, 114)]
def wl_X13_isDeep : List Nat := []
def wf_X13_isDeep : List (Nat × Nat) := [(160, 9), (160, 10)]
def wl_X13_jump : List Nat := [206, 217, 218]
def wf_X13_jump : List (Nat × Nat) := [(160, 68), (160, 87)]
def wl_X13_jumps : List Nat := [254]
def wf_X13_jumps : List (Nat × Nat) := []
def wl_X13_keep : List Nat := [226, 227, 228, 229, 230, 231, 232, 233, 234, 235, 236, 237, 238, 239]
def wf_X13_keep : List (Nat × Nat) := [(160, 98), (160, 99), (160, 113), (160, 114), (160, 115), (160, 138)]
def wl_X13_kindOf : List Nat := [200, 201, 202, 203, 204, 205]
def wf_X13_kindOf : List (Nat × Nat) := [(160, 62), (160, 64), (160, 66)]
def wl_X13_kindType : List Nat := [240, 241]
def wf_X13_kindType : List (Nat × Nat) := [(160, 117), (160, 120)]
def wl_X13_kindsAreThere : List Nat := [240, 241]
def wf_X13_kindsAreThere : List (Nat × Nat) := [(160, 117), (160, 120)]
def wl_X13_label : List Nat := []
def wf_X13_label : List (Nat × Nat) := [(160, 88)]
def wl_X13_lay : List Nat := [161]
def wf_X13_lay : List (Nat × Nat) := [(160, 1)]
def wl_X13_led : List Nat := []
def wf_X13_led : List (Nat × Nat) := [(160, 9), (160, 10)]
def wl_X13_load : List Nat := [226, 227, 228, 229, 230, 231, 232, 233, 234, 235, 236, 237, 238, 239]
def wf_X13_load : List (Nat × Nat) := [(160, 1), (160, 98), (160, 99), (160, 113), (160, 114), (160, 115), (160, 138)]
def wl_X13_loaded : List Nat := [226, 227, 228, 229, 230, 231, 232, 233, 234, 235, 236, 237, 239]
def wf_X13_loaded : List (Nat × Nat) := [(160, 98), (160, 99), (160, 114), (160, 115), (160, 138)]
def wl_X13_localsFit : List Nat := [240, 241]
def wf_X13_localsFit : List (Nat × Nat) := [(160, 117), (160, 120)]
def wl_X13_make : List Nat := [196, 197, 199, 200, 201, 202, 203, 204, 205, 206, 207, 208, 209, 210, 211, 212, 213, 214, 215, 216, 217, 218, 219, 220]
def wf_X13_make : List (Nat × Nat) := [(160, 50), (160, 54), (160, 57), (160, 62), (160, 64), (160, 66), (160, 68), (160, 70), (160, 71), (160, 72), (160, 78), (160, 79), (160, 84), (160, 87), (160, 88)]
def wl_X13_makeClass : List Nat := [196, 197, 199, 200, 201, 202, 203, 204, 205, 206, 207, 208, 209, 210, 211, 212, 213, 214, 215, 216, 217, 218, 219, 220, 223, 224, 225]
def wf_X13_makeClass : List (Nat × Nat) := [(160, 9), (160, 10), (160, 50), (160, 51), (160, 52), (160, 53), (160, 54), (160, 57), (160, 62), (160, 64), (160, 66), (160, 68), (160, 70), (160, 71), (160, 72), (160, 78), (160, 79), (160, 84), (160, 87), (160, 88), (160, 97)]
def wl_X13_makeLoop : List Nat := [196, 197, 199, 200, 201, 202, 203, 204, 205, 206, 207, 208, 209, 210, 211, 212, 213, 214, 215, 216, 217, 218, 219, 220]
def wf_X13_makeLoop : List (Nat × Nat) := [(160, 50), (160, 54), (160, 57), (160, 62), (160, 64), (160, 66), (160, 68), (160, 70), (160, 71), (160, 72), (160, 78), (160, 79), (160, 84), (160, 87), (160, 88)]
def wl_X13_makeMethod : List Nat := [196, 197, 199, 200, 201, 202, 203, 204, 205, 206, 207, 208, 209, 210, 211, 212, 213, 214, 215, 216, 217, 218, 219, 220, 225]
def wf_X13_makeMethod : List (Nat × Nat) := [(160, 9), (160, 10), (160, 50), (160, 51), (160, 53), (160, 54), (160, 57), (160, 62), (160, 64), (160, 66), (160, 68), (160, 70), (160, 71), (160, 72), (160, 78), (160, 79), (160, 84), (160, 87), (160, 88), (160, 97)]
def wl_X13_make_ : List Nat := [246, 247, 248, 249]
def wf_X13_make_ : List (Nat × Nat) := [(160, 138), (160, 141), (160, 142)]
def wl_X13_member : List Nat := [167, 168, 169, 170, 171, 172, 173, 174, 175, 176, 177, 181, 182, 183, 184, 185, 186, 188, 189, 190, 191, 192, 193, 194]
def wf_X13_member : List (Nat × Nat) := [(160, 9), (160, 10), (160, 22), (160, 23), (160, 28), (160, 39), (160, 45), (160, 46), (160, 47)]
def wl_X13_memberConstant : List Nat := [200, 201, 202, 203, 204, 205]
def wf_X13_memberConstant : List (Nat × Nat) := [(160, 62), (160, 64), (160, 66)]
def wl_X13_memberHead : List Nat := [187, 195]
def wf_X13_memberHead : List (Nat × Nat) := [(160, 9), (160, 10)]
def wl_X13_methodFits : List Nat := [240, 241, 242, 243, 244, 245]
def wf_X13_methodFits : List (Nat × Nat) := [(160, 117), (160, 120), (160, 121), (160, 122), (160, 123), (160, 124), (160, 125), (160, 129), (160, 130), (160, 131), (160, 132), (160, 133), (160, 134), (160, 135), (160, 136)]
def wl_X13_misplaced : List Nat := []
def wf_X13_misplaced : List (Nat × Nat) := [(160, 9), (160, 10)]
def wl_X13_name : List Nat := []
def wf_X13_name : List (Nat × Nat) := [(160, 9), (160, 10), (160, 23)]
def wl_X13_nameNumber : List Nat := [240, 241]
def wf_X13_nameNumber : List (Nat × Nat) := [(160, 117)]
def wl_X13_named : List Nat := [175, 176]
def wf_X13_named : List (Nat × Nat) := [(160, 9), (160, 10)]
def wl_X13_number : List Nat := [200, 201, 202, 203, 206, 207]
def wf_X13_number : List (Nat × Nat) := [(160, 62), (160, 68), (160, 70), (160, 71)]
def wl_X13_on : List Nat := [253]
def wf_X13_on : List (Nat × Nat) := []
def wl_X13_overrides : List Nat := []
def wf_X13_overrides : List (Nat × Nat) := [(160, 9), (160, 10)]
def wl_X13_patch : List Nat := [226, 227, 228, 229, 230, 231, 232, 233, 234, 235, 236, 237, 238, 239]
def wf_X13_patch : List (Nat × Nat) := [(160, 99), (160, 113), (160, 114), (160, 115), (160, 138)]
def wl_X13_plain : List Nat := [167, 168, 169, 170, 171, 172, 173, 174, 175, 176, 177]
def wf_X13_plain : List (Nat × Nat) := [(160, 9), (160, 10), (160, 22), (160, 23)]
def wl_X13_postfix : List Nat := [167, 168, 169, 170, 171, 172, 173, 174, 175, 176, 177]
def wf_X13_postfix : List (Nat × Nat) := [(160, 9), (160, 10), (160, 22), (160, 23)]
def wl_X13_primary : List Nat := [167, 168, 169, 170, 171, 172, 173, 174, 175, 176, 177]
def wf_X13_primary : List (Nat × Nat) := [(160, 9), (160, 10), (160, 22), (160, 23)]
def wl_X13_program : List Nat := [167, 168, 169, 170, 171, 172, 173, 174, 175, 176, 177, 178, 179, 181, 182, 183, 184, 185, 186, 188, 189, 190, 191, 192, 193, 194]
def wf_X13_program : List (Nat × Nat) := [(160, 9), (160, 10), (160, 22), (160, 23), (160, 24), (160, 28), (160, 39), (160, 45), (160, 46), (160, 47)]
def wl_X13_pull : List Nat := []
def wf_X13_pull : List (Nat × Nat) := [(160, 131)]
def wl_X13_pullFit : List Nat := []
def wf_X13_pullFit : List (Nat × Nat) := [(160, 131)]
def wl_X13_pullInts : List Nat := []
def wf_X13_pullInts : List (Nat × Nat) := [(160, 131)]
def wl_X13_pullThing : List Nat := []
def wf_X13_pullThing : List (Nat × Nat) := [(160, 131)]
def wl_X13_push : List Nat := [207]
def wf_X13_push : List (Nat × Nat) := [(160, 70), (160, 71)]
def wl_X13_put : List Nat := [206]
def wf_X13_put : List (Nat × Nat) := [(160, 68)]
def wl_X13_right : List Nat := [240, 241]
def wf_X13_right : List (Nat × Nat) := [(160, 117), (160, 120), (160, 121)]
def wl_X13_rule : List Nat := [174, 175, 176, 199]
def wf_X13_rule : List (Nat × Nat) := [(160, 9), (160, 10), (160, 57)]
def wl_X13_ruled : List Nat := [174, 175, 176, 196, 197, 198, 199]
def wf_X13_ruled : List (Nat × Nat) := [(160, 9), (160, 10), (160, 50), (160, 54), (160, 57)]
def wl_X13_run : List Nat := [246, 247, 248, 249, 250, 251, 252, 253, 254, 255]
def wf_X13_run : List (Nat × Nat) := [(160, 121), (160, 138), (160, 139), (160, 140), (160, 141), (160, 142), (160, 143), (160, 149)]
def wl_X13_scan : List Nat := [228, 229, 230, 231, 232, 233, 234, 235, 236, 237]
def wf_X13_scan : List (Nat × Nat) := [(160, 114), (160, 115)]
def wl_X13_scanConstant : List Nat := []
def wf_X13_scanConstant : List (Nat × Nat) := [(160, 114)]
def wl_X13_scanFields : List Nat := [232, 233]
def wf_X13_scanFields : List (Nat × Nat) := [(160, 114)]
def wl_X13_scanMethod : List Nat := [236, 237]
def wf_X13_scanMethod : List (Nat × Nat) := [(160, 114)]
def wl_X13_scanTypes : List Nat := []
def wf_X13_scanTypes : List (Nat × Nat) := [(160, 114)]
def wl_X13_self : List Nat := [206, 207]
def wf_X13_self : List (Nat × Nat) := [(160, 68), (160, 70), (160, 71)]
def wl_X13_side : List Nat := []
def wf_X13_side : List (Nat × Nat) := [(160, 9), (160, 10)]
def wl_X13_sides : List Nat := [167, 168, 169, 170, 171, 172, 173, 174, 175, 176, 177]
def wf_X13_sides : List (Nat × Nat) := [(160, 9), (160, 10), (160, 22), (160, 23)]
def wl_X13_sign_ : List Nat := []
def wf_X13_sign_ : List (Nat × Nat) := [(160, 9), (160, 10), (160, 23)]
def wl_X13_spell : List Nat := [205]
def wf_X13_spell : List (Nat × Nat) := [(160, 66)]
def wl_X13_spellClass : List Nat := [205]
def wf_X13_spellClass : List (Nat × Nat) := [(160, 66)]
def wl_X13_spellKind : List Nat := [205]
def wf_X13_spellKind : List (Nat × Nat) := [(160, 66)]
def wl_X13_spellToken : List Nat := [205]
def wf_X13_spellToken : List (Nat × Nat) := [(160, 66)]
def wl_X13_spelling : List Nat := [200, 201, 202, 203, 204]
def wf_X13_spelling : List (Nat × Nat) := [(160, 62), (160, 64), (160, 66)]
def wl_X13_stackFits : List Nat := [240, 241]
def wf_X13_stackFits : List (Nat × Nat) := [(160, 117), (160, 120)]
def wl_X13_stands : List Nat := [206, 208, 209, 210, 211, 212, 217, 218]
def wf_X13_stands : List (Nat × Nat) := [(160, 78), (160, 79), (160, 87)]
def wl_X13_start : List Nat := [251, 252, 253, 254, 255]
def wf_X13_start : List (Nat × Nat) := [(160, 138), (160, 139), (160, 140), (160, 141), (160, 142), (160, 143), (160, 149)]
def wl_X13_statement : List Nat := [167, 168, 169, 170, 171, 172, 173, 174, 175, 176, 177]
def wf_X13_statement : List (Nat × Nat) := [(160, 9), (160, 10), (160, 22), (160, 23), (160, 45), (160, 46), (160, 47)]
def wl_X13_step : List Nat := [246, 247, 248, 249, 250, 251, 252, 253, 254, 255]
def wf_X13_step : List (Nat × Nat) := [(160, 121), (160, 138), (160, 139), (160, 141), (160, 142), (160, 143), (160, 149)]
def wl_X13_store : List Nat := [206]
def wf_X13_store : List (Nat × Nat) := [(160, 68), (160, 70)]
def wl_X13_tell : List Nat := [225]
def wf_X13_tell : List (Nat × Nat) := [(160, 97)]
def wl_X13_tellPair : List Nat := [225]
def wf_X13_tellPair : List (Nat × Nat) := [(160, 97)]
def wl_X13_tellType : List Nat := [200, 201, 202, 203, 204, 205, 225]
def wf_X13_tellType : List (Nat × Nat) := [(160, 62), (160, 64), (160, 66), (160, 97)]
def wl_X13_textOf : List Nat := [200, 201, 202, 203, 204, 205]
def wf_X13_textOf : List (Nat × Nat) := [(160, 62), (160, 64), (160, 66)]
def wl_X13_thrown : List Nat := [253, 254, 255]
def wf_X13_thrown : List (Nat × Nat) := [(160, 138), (160, 139), (160, 149)]
def wl_X13_token : List Nat := [163, 164, 165, 166]
def wf_X13_token : List (Nat × Nat) := [(160, 8)]
def wl_X13_tokenize : List Nat := [163, 164, 165, 166]
def wf_X13_tokenize : List (Nat × Nat) := [(160, 8)]
def wl_X13_truth : List Nat := [206, 207, 208, 209, 210, 211, 212, 217, 218]
def wf_X13_truth : List (Nat × Nat) := [(160, 68), (160, 70), (160, 71), (160, 78), (160, 79), (160, 87), (160, 88)]
def wl_X13_turn : List Nat := [207]
def wf_X13_turn : List (Nat × Nat) := [(160, 70), (160, 71)]
def wl_X13_type : List Nat := []
def wf_X13_type : List (Nat × Nat) := [(160, 9), (160, 10), (160, 23), (160, 45), (160, 46), (160, 47)]
def wl_X13_typeAt : List Nat := [240, 241]
def wf_X13_typeAt : List (Nat × Nat) := [(160, 117), (160, 120)]
def wl_X13_typeOf : List Nat := []
def wf_X13_typeOf : List (Nat × Nat) := [(160, 9), (160, 10)]
def wl_X13_typeOfClass : List Nat := [240, 241]
def wf_X13_typeOfClass : List (Nat × Nat) := [(160, 117), (160, 120)]
def wl_X13_unary : List Nat := [167, 168, 169, 170, 171, 172, 173, 174, 175, 176, 177]
def wf_X13_unary : List (Nat × Nat) := [(160, 9), (160, 10), (160, 22), (160, 23)]
def wl_X13_unfit : List Nat := []
def wf_X13_unfit : List (Nat × Nat) := [(160, 114)]
def wl_X13_verify : List Nat := [240, 241, 242, 243, 244, 245]
def wf_X13_verify : List (Nat × Nat) := [(160, 99), (160, 117), (160, 120), (160, 121), (160, 122), (160, 123), (160, 124), (160, 125), (160, 129), (160, 130), (160, 131), (160, 132), (160, 133), (160, 134), (160, 135), (160, 136)]
def wl_X13_wanted : List Nat := [240, 241, 243, 244, 245]
def wf_X13_wanted : List (Nat × Nat) := [(160, 117), (160, 120), (160, 131)]
def wl_X13_word : List Nat := []
def wf_X13_word : List (Nat × Nat) := [(160, 9), (160, 10), (160, 23)]
def wl_X13_work : List Nat := [199, 200, 201, 202, 203, 204, 205, 206, 207, 208, 209, 210, 211, 212, 217, 218]
def wf_X13_work : List (Nat × Nat) := [(160, 57), (160, 62), (160, 64), (160, 66), (160, 68), (160, 70), (160, 71), (160, 78), (160, 79), (160, 87), (160, 88)]
def wl_X13_workBoth : List Nat := [199, 200, 201, 202, 203, 204, 205, 206, 207, 208, 209, 210, 211, 212, 217, 218]
def wf_X13_workBoth : List (Nat × Nat) := [(160, 57), (160, 62), (160, 64), (160, 66), (160, 68), (160, 70), (160, 71), (160, 78), (160, 79), (160, 87), (160, 88)]
def wl_X13_workCall : List Nat := [199, 200, 201, 202, 203, 204, 205, 206, 207, 208, 209, 210, 211, 212, 217, 218]
def wf_X13_workCall : List (Nat × Nat) := [(160, 57), (160, 62), (160, 64), (160, 66), (160, 68), (160, 70), (160, 71), (160, 78), (160, 79), (160, 87), (160, 88)]
def wl_X13_workOne : List Nat := [199, 200, 201, 202, 203, 204, 205, 206, 207, 208, 209, 210, 211, 212, 217, 218]
def wf_X13_workOne : List (Nat × Nat) := [(160, 57), (160, 62), (160, 64), (160, 66), (160, 68), (160, 70), (160, 71), (160, 78), (160, 79), (160, 87), (160, 88)]
def wl_X13_worked : List Nat := [174, 175, 176, 199]
def wf_X13_worked : List (Nat × Nat) := [(160, 9), (160, 10), (160, 57)]
def wl_X13_writeConstant : List Nat := [223]
def wf_X13_writeConstant : List (Nat × Nat) := []
def wl_X13_wrong : List Nat := []
def wf_X13_wrong : List (Nat × Nat) := [(160, 9), (160, 10)]
def wl_X1_addHandler : List Nat := [36, 39, 40, 41, 42]
def wf_X1_addHandler : List (Nat × Nat) := [(34, 3), (34, 4), (34, 10), (34, 14), (34, 15)]
def wl_X1_addLocal : List Nat := [37, 38]
def wf_X1_addLocal : List (Nat × Nat) := [(34, 7), (34, 8)]
def wl_X1_aimAt : List Nat := [35]
def wf_X1_aimAt : List (Nat × Nat) := []
def wl_X1_aimHere : List Nat := [35, 40, 41, 42]
def wf_X1_aimHere : List (Nat × Nat) := [(34, 14), (34, 15)]
def wl_X1_beginMethod : List Nat := []
def wf_X1_beginMethod : List (Nat × Nat) := [(34, 1), (34, 3), (34, 4), (34, 7), (34, 8), (34, 10), (34, 14), (34, 15)]
def wl_X1_fillFrame : List Nat := [41]
def wf_X1_fillFrame : List (Nat × Nat) := [(34, 15)]
def wl_X1_jump : List Nat := [35]
def wf_X1_jump : List (Nat × Nat) := [(34, 1), (34, 3)]
def wl_X1_jumpBack : List Nat := [35, 40, 41, 42]
def wf_X1_jumpBack : List (Nat × Nat) := [(34, 1), (34, 3), (34, 14), (34, 15)]
def wl_X1_op : List Nat := [35]
def wf_X1_op : List (Nat × Nat) := [(34, 1)]
def wl_X1_op_ : List Nat := [35]
def wf_X1_op_ : List (Nat × Nat) := [(34, 1)]
def wl_X1_pop : List Nat := []
def wf_X1_pop : List (Nat × Nat) := [(34, 3)]
def wl_X1_push : List Nat := [36]
def wf_X1_push : List (Nat × Nat) := [(34, 3), (34, 4)]
def wl_X1_slotOfFrame : List Nat := [40, 42]
def wf_X1_slotOfFrame : List (Nat × Nat) := [(34, 14)]
def wl_X1_store : List Nat := [35]
def wf_X1_store : List (Nat × Nat) := [(34, 1), (34, 3)]
def wl_X1_truth : List Nat := [35, 36, 40, 41, 42]
def wf_X1_truth : List (Nat × Nat) := [(34, 1), (34, 3), (34, 4), (34, 14), (34, 15)]
def wl_X1_writeFrame : List Nat := [46, 47, 48]
def wf_X1_writeFrame : List (Nat × Nat) := [(45, 4), (45, 5), (45, 7)]
def wl_X1_writeTo : List Nat := [46, 47, 48]
def wf_X1_writeTo : List (Nat × Nat) := [(45, 4), (45, 5), (45, 7)]
def wl_X1_writeTypes : List Nat := [46, 47, 48]
def wf_X1_writeTypes : List (Nat × Nat) := [(45, 4), (45, 5), (45, 7)]
def wl_X2_addClass : List Nat := [15]
def wf_X2_addClass : List (Nat × Nat) := [(11, 2)]
def wl_X2_addField : List Nat := [17, 18, 19]
def wf_X2_addField : List (Nat × Nat) := [(2, 11), (2, 12)]
def wl_X2_addKind : List Nat := [31]
def wf_X2_addKind : List (Nat × Nat) := [(11, 20)]
def wl_X2_addKindByte : List Nat := [31]
def wf_X2_addKindByte : List (Nat × Nat) := [(11, 20)]
def wl_X2_addMethod : List Nat := [21, 22, 23, 24, 25, 27, 28, 29]
def wf_X2_addMethod : List (Nat × Nat) := [(2, 10), (2, 11), (2, 12)]
def wl_X2_addParameter : List Nat := [27, 28, 29]
def wf_X2_addParameter : List (Nat × Nat) := [(2, 10), (2, 11), (2, 12)]
def wl_X2_checkClassHead : List Nat := []
def wf_X2_checkClassHead : List (Nat × Nat) := [(2, 11), (2, 12)]
def wl_X2_checkOverride : List Nat := []
def wf_X2_checkOverride : List (Nat × Nat) := [(2, 11), (2, 12)]
def wl_X2_checkOverrides : List Nat := []
def wf_X2_checkOverrides : List (Nat × Nat) := [(2, 11), (2, 12)]
def wl_X2_forget : List Nat := [13, 14, 17, 21]
def wf_X2_forget : List (Nat × Nat) := [(11, 2)]
def wl_X2_nameClasses : List Nat := [16]
def wf_X2_nameClasses : List (Nat × Nat) := []
def wl_X2_nameKind : List Nat := [6, 7, 8, 9, 31]
def wf_X2_nameKind : List (Nat × Nat) := [(2, 9), (11, 20)]
def wl_X2_nameKinds : List Nat := [6, 7, 8, 9, 20, 26, 30, 31]
def wf_X2_nameKinds : List (Nat × Nat) := [(2, 9), (11, 20)]
def wl_X2_nameMethodKind : List Nat := [6, 7, 8, 9, 31]
def wf_X2_nameMethodKind : List (Nat × Nat) := [(2, 9), (11, 20)]
def wl_X2_readClasses : List Nat := [13, 14, 16]
def wf_X2_readClasses : List (Nat × Nat) := [(2, 11), (2, 12)]
def wl_X2_readMember : List Nat := [17, 18, 19, 21, 22, 23, 24, 25, 27, 28, 29]
def wf_X2_readMember : List (Nat × Nat) := [(2, 10), (2, 11), (2, 12)]
def wl_X2_readMembers : List Nat := [17, 18, 19, 21, 22, 23, 24, 25, 27, 28, 29]
def wf_X2_readMembers : List (Nat × Nat) := [(2, 10), (2, 11), (2, 12)]
def wl_X2_readType : List Nat := []
def wf_X2_readType : List (Nat × Nat) := [(2, 10), (2, 11), (2, 12)]
def wl_X2_skipBlock : List Nat := []
def wf_X2_skipBlock : List (Nat × Nat) := [(2, 10)]
def wl_X3_bad : List Nat := []
def wf_X3_bad : List (Nat × Nat) := []
def wl_X3_checkConstant : List Nat := []
def wf_X3_checkConstant : List (Nat × Nat) := []
def wl_X3_keepOwn : List Nat := []
def wf_X3_keepOwn : List (Nat × Nat) := []
def wl_X3_next : List Nat := []
def wf_X3_next : List (Nat × Nat) := []
def wl_X3_nextClass : List Nat := []
def wf_X3_nextClass : List (Nat × Nat) := []
def wl_X3_nextName : List Nat := []
def wf_X3_nextName : List (Nat × Nat) := []
def wl_X3_nextPlainClass : List Nat := []
def wf_X3_nextPlainClass : List (Nat × Nat) := []
def wl_X3_nextUpTo : List Nat := []
def wf_X3_nextUpTo : List (Nat × Nat) := []
def wl_X3_read : List Nat := []
def wf_X3_read : List (Nat × Nat) := []
def wl_X3_readCode : List Nat := []
def wf_X3_readCode : List (Nat × Nat) := []
def wl_X3_readConstant : List Nat := []
def wf_X3_readConstant : List (Nat × Nat) := []
def wl_X3_readConstants : List Nat := []
def wf_X3_readConstants : List (Nat × Nat) := []
def wl_X3_readFields : List Nat := []
def wf_X3_readFields : List (Nat × Nat) := []
def wl_X3_readFrameTypes : List Nat := []
def wf_X3_readFrameTypes : List (Nat × Nat) := []
def wl_X3_readFrames : List Nat := []
def wf_X3_readFrames : List (Nat × Nat) := []
def wl_X3_readHandlers : List Nat := []
def wf_X3_readHandlers : List (Nat × Nat) := []
def wl_X3_readMethod : List Nat := []
def wf_X3_readMethod : List (Nat × Nat) := []
def wl_X3_skipPairs : List Nat := []
def wf_X3_skipPairs : List (Nat × Nat) := []
def wl_X5_beginMethod : List Nat := [148, 149, 150, 151]
def wf_X5_beginMethod : List (Nat × Nat) := [(143, 1), (143, 6), (143, 17), (143, 18), (143, 19)]
def wl_X5_beginRun : List Nat := [148, 149, 150, 151]
def wf_X5_beginRun : List (Nat × Nat) := [(143, 1), (143, 2), (143, 3), (143, 4), (143, 5), (143, 6), (143, 7), (143, 17), (143, 18), (143, 19)]
def wl_X5_cellOf : List Nat := []
def wf_X5_cellOf : List (Nat × Nat) := [(143, 20)]
def wl_X5_forget : List Nat := []
def wf_X5_forget : List (Nat × Nat) := [(143, 1), (143, 2), (143, 3), (143, 4), (143, 5), (143, 6), (143, 7)]
def wl_X5_give : List Nat := [149, 150, 152]
def wf_X5_give : List (Nat × Nat) := [(143, 1)]
def wl_X5_giveNew : List Nat := [145, 146, 147, 149, 150, 152]
def wf_X5_giveNew : List (Nat × Nat) := [(143, 1), (143, 4), (143, 5)]
def wl_X5_go : List Nat := [144, 145, 146, 147, 148, 149, 150, 151, 152]
def wf_X5_go : List (Nat × Nat) := [(143, 1), (143, 2), (143, 3), (143, 4), (143, 5), (143, 6), (143, 7), (143, 17), (143, 18), (143, 19), (143, 20)]
def wl_X5_goOn : List Nat := [149]
def wf_X5_goOn : List (Nat × Nat) := []
def wl_X5_isCaught : List Nat := [149, 150, 152]
def wf_X5_isCaught : List (Nat × Nat) := [(143, 1)]
def wl_X5_make : List Nat := [145, 146, 147]
def wf_X5_make : List (Nat × Nat) := [(143, 1), (143, 4), (143, 5)]
def wl_X5_pop : List Nat := [150]
def wf_X5_pop : List (Nat × Nat) := [(143, 1)]
def wl_X5_push : List Nat := [150, 152]
def wf_X5_push : List (Nat × Nat) := [(143, 1)]
def wl_X5_step : List Nat := [144, 145, 146, 147, 148, 149, 150, 151, 152]
def wf_X5_step : List (Nat × Nat) := [(143, 1), (143, 2), (143, 4), (143, 5), (143, 6), (143, 7), (143, 17), (143, 18), (143, 19), (143, 20)]
def wl_X5_stepArithmetic : List Nat := [149, 150, 152]
def wf_X5_stepArithmetic : List (Nat × Nat) := [(143, 1), (143, 20)]
def wl_X5_stepCall : List Nat := [148, 149, 150, 151]
def wf_X5_stepCall : List (Nat × Nat) := [(143, 1), (143, 6), (143, 17), (143, 18), (143, 19), (143, 20)]
def wl_X5_stepElement : List Nat := [149, 150, 152]
def wf_X5_stepElement : List (Nat × Nat) := [(143, 1), (143, 20)]
def wl_X5_stepField : List Nat := [149, 150, 152]
def wf_X5_stepField : List (Nat × Nat) := [(143, 1), (143, 20)]
def wl_X5_stepGiveElement : List Nat := [147, 149, 150]
def wf_X5_stepGiveElement : List (Nat × Nat) := [(143, 1), (143, 20)]
def wl_X5_stepGiveField : List Nat := [147, 149, 150]
def wf_X5_stepGiveField : List (Nat × Nat) := [(143, 1), (143, 20)]
def wl_X5_stepJump : List Nat := [149, 150]
def wf_X5_stepJump : List (Nat × Nat) := [(143, 1)]
def wl_X5_stepKin : List Nat := [149, 150, 152]
def wf_X5_stepKin : List (Nat × Nat) := [(143, 1), (143, 20)]
def wl_X5_stepLength : List Nat := [149, 150, 152]
def wf_X5_stepLength : List (Nat × Nat) := [(143, 1), (143, 20)]
def wl_X5_stepLocal : List Nat := [149, 150, 151, 152]
def wf_X5_stepLocal : List (Nat × Nat) := [(143, 1)]
def wl_X5_stepNewArray : List Nat := [145, 146, 147, 149, 150, 152]
def wf_X5_stepNewArray : List (Nat × Nat) := [(143, 1), (143, 4), (143, 5), (143, 20)]
def wl_X5_stepObject : List Nat := [144, 145, 146, 147, 148, 149, 150, 151, 152]
def wf_X5_stepObject : List (Nat × Nat) := [(143, 1), (143, 2), (143, 4), (143, 5), (143, 6), (143, 7), (143, 17), (143, 18), (143, 19), (143, 20)]
def wl_X5_stepPrint : List Nat := [144, 149, 150]
def wf_X5_stepPrint : List (Nat × Nat) := [(143, 1), (143, 7)]
def wl_X5_stepReturn : List Nat := [149, 150, 152]
def wf_X5_stepReturn : List (Nat × Nat) := [(143, 1), (143, 2), (143, 6), (143, 17), (143, 18), (143, 19)]
def wl_X5_stepThrow : List Nat := [150]
def wf_X5_stepThrow : List (Nat × Nat) := [(143, 1), (143, 20)]
def wl_X5_takeTop : List Nat := []
def wf_X5_takeTop : List (Nat × Nat) := [(143, 1), (143, 17), (143, 18), (143, 19)]
def wl_X5_throwUp : List Nat := [149, 150, 152]
def wf_X5_throwUp : List (Nat × Nat) := [(143, 1), (143, 2), (143, 6), (143, 17), (143, 18), (143, 19)]
def wl_X6_beginClass : List Nat := [46, 47, 48]
def wf_X6_beginClass : List (Nat × Nat) := [(45, 4), (45, 5), (45, 7)]
def wl_X6_beginMethod : List Nat := [46, 47, 48]
def wf_X6_beginMethod : List (Nat × Nat) := [(45, 4), (45, 5), (45, 7)]
def wl_X6_classOf : List Nat := [46, 47]
def wf_X6_classOf : List (Nat × Nat) := [(45, 4), (45, 5)]
def wl_X6_closeImage : List Nat := []
def wf_X6_closeImage : List (Nat × Nat) := []
def wl_X6_constant : List Nat := [46, 47]
def wf_X6_constant : List (Nat × Nat) := [(45, 4), (45, 5)]
def wl_X6_fieldOf : List Nat := [46, 47]
def wf_X6_fieldOf : List (Nat × Nat) := [(45, 4), (45, 5)]
def wl_X6_methodOf : List Nat := [46, 47]
def wf_X6_methodOf : List (Nat × Nat) := [(45, 4), (45, 5)]
def wl_X6_numberOf : List Nat := [46, 47]
def wf_X6_numberOf : List (Nat × Nat) := [(45, 4), (45, 5)]
def wl_X6_put : List Nat := [48]
def wf_X6_put : List (Nat × Nat) := [(45, 7)]
def wl_X6_putPair : List Nat := [48]
def wf_X6_putPair : List (Nat × Nat) := [(45, 7)]
def wl_X6_writeConstant : List Nat := []
def wf_X6_writeConstant : List (Nat × Nat) := []
def wl_X7_bring : List Nat := [58, 59, 60]
def wf_X7_bring : List (Nat × Nat) := [(56, 2), (56, 3), (56, 4)]
def wl_X7_change : List Nat := [58, 59, 60]
def wf_X7_change : List (Nat × Nat) := [(56, 2), (56, 4)]
def wl_X7_forget : List Nat := [58, 59]
def wf_X7_forget : List (Nat × Nat) := [(56, 3), (56, 4)]
def wl_X7_linkAll : List Nat := [68, 69, 70]
def wf_X7_linkAll : List (Nat × Nat) := []
def wl_X7_linkMethods : List Nat := [70]
def wf_X7_linkMethods : List (Nat × Nat) := []
def wl_X7_readKind : List Nat := [131]
def wf_X7_readKind : List (Nat × Nat) := []
def wl_X7_relate : List Nat := [58, 59]
def wf_X7_relate : List (Nat × Nat) := [(56, 4)]
def wl_X7_swapSpare : List Nat := [60]
def wf_X7_swapSpare : List (Nat × Nat) := [(56, 2)]
def wl_X8_accept : List Nat := []
def wf_X8_accept : List (Nat × Nat) := [(2, 10)]
def wl_X8_need : List Nat := []
def wf_X8_need : List (Nat × Nat) := [(2, 10), (2, 11), (2, 12)]
def wl_X8_readArguments : List Nat := []
def wf_X8_readArguments : List (Nat × Nat) := [(2, 10), (2, 11), (2, 12)]
def wl_X8_readBehind : List Nat := []
def wf_X8_readBehind : List (Nat × Nat) := [(2, 10), (2, 11), (2, 12)]
def wl_X8_readBlock : List Nat := []
def wf_X8_readBlock : List (Nat × Nat) := [(2, 10), (2, 11), (2, 12)]
def wl_X8_readClass : List Nat := [15]
def wf_X8_readClass : List (Nat × Nat) := [(2, 10), (2, 11), (2, 12), (11, 2)]
def wl_X8_readCondition : List Nat := []
def wf_X8_readCondition : List (Nat × Nat) := [(2, 10), (2, 11), (2, 12)]
def wl_X8_readMember : List Nat := []
def wf_X8_readMember : List (Nat × Nat) := [(2, 10), (2, 11), (2, 12)]
def wl_X8_readNew : List Nat := []
def wf_X8_readNew : List (Nat × Nat) := [(2, 10), (2, 11), (2, 12)]
def wl_X8_readParameters : List Nat := []
def wf_X8_readParameters : List (Nat × Nat) := [(2, 10), (2, 11), (2, 12)]
def wl_X8_readPlain : List Nat := []
def wf_X8_readPlain : List (Nat × Nat) := [(2, 10), (2, 11), (2, 12)]
def wl_X8_readPrimary : List Nat := []
def wf_X8_readPrimary : List (Nat × Nat) := [(2, 10), (2, 11), (2, 12)]
def wl_X8_readProgram : List Nat := [15]
def wf_X8_readProgram : List (Nat × Nat) := [(2, 10), (2, 11), (2, 12), (11, 2)]
def wl_X8_readStatement : List Nat := []
def wf_X8_readStatement : List (Nat × Nat) := [(2, 10), (2, 11), (2, 12)]
def wl_X8_readTry : List Nat := []
def wf_X8_readTry : List (Nat × Nat) := [(2, 10), (2, 11), (2, 12)]
def wl_X8_readType : List Nat := []
def wf_X8_readType : List (Nat × Nat) := [(2, 10), (2, 11), (2, 12)]
def wl_X8_readUnary : List Nat := []
def wf_X8_readUnary : List (Nat × Nat) := [(2, 10), (2, 11), (2, 12)]
def wl_X8_readValue : List Nat := []
def wf_X8_readValue : List (Nat × Nat) := [(2, 10), (2, 11), (2, 12)]
def wl_X8_readVariable : List Nat := []
def wf_X8_readVariable : List (Nat × Nat) := [(2, 10), (2, 11), (2, 12)]
def wl_X8_tooDeep : List Nat := []
def wf_X8_tooDeep : List (Nat × Nat) := [(2, 11), (2, 12)]
def wl_X9_addToken : List Nat := [3, 4, 5]
def wf_X9_addToken : List (Nat × Nat) := [(2, 3)]
def wl_X9_closeName : List Nat := [7, 8, 9]
def wf_X9_closeName : List (Nat × Nat) := [(2, 9)]
def wl_X9_copyName : List Nat := []
def wf_X9_copyName : List (Nat × Nat) := []
def wl_X9_nameOf : List Nat := [6, 7, 8, 9]
def wf_X9_nameOf : List (Nat × Nat) := [(2, 9)]
def wl_X9_refuse : List Nat := []
def wf_X9_refuse : List (Nat × Nat) := [(2, 11), (2, 12)]
def wl_X9_scan : List Nat := [3, 4, 5, 6, 7, 8, 9]
def wf_X9_scan : List (Nat × Nat) := [(2, 3), (2, 9), (2, 10), (2, 11), (2, 12)]
def wl_X9_scanNumber : List Nat := [3, 4, 5]
def wf_X9_scanNumber : List (Nat × Nat) := [(2, 3)]
def wl_X9_scanToken : List Nat := [3, 4, 5, 6, 7, 8, 9]
def wf_X9_scanToken : List (Nat × Nat) := [(2, 3), (2, 9)]
def wl_X9_scanWord : List Nat := [3, 4, 5, 6, 7, 8, 9]
def wf_X9_scanWord : List (Nat × Nat) := [(2, 3), (2, 9)]
def wl_X9_tell : List Nat := []
def wf_X9_tell : List (Nat × Nat) := [(2, 11), (2, 12)]
def wl_X9_tellHere : List Nat := []
def wf_X9_tellHere : List (Nat × Nat) := [(2, 11), (2, 12)]
set_option maxRecDepth 4000 in
theorem ff_X5_forget (nn : Nat) {h : ms_M} : Fm_ (fun c k => nw_F wl_X5_forget wf_X5_forget false false c k = true) h (qf_X5_forget nn h) (fun r => r) := by
  unfold qf_X5_forget
  have F_h : ∀ c k : Nat, (fun c k => nw_F wl_X5_forget wf_X5_forget false false c k = true) c k → h c k = h c k := fun _ _ _ => rfl
  refine fm_up F_h (nw_nf rfl) ?_; intro h1 F_h1
  refine fm_up F_h1 (nw_nf rfl) ?_; intro h2 F_h2
  refine fm_up F_h2 (nw_nf rfl) ?_; intro h3 F_h3
  refine fm_up F_h3 (nw_nf rfl) ?_; intro h4 F_h4
  refine fm_up F_h4 (nw_nf rfl) ?_; intro h5 F_h5
  refine fm_up F_h5 (nw_nf rfl) ?_; intro h6 F_h6
  refine fm_up F_h6 (nw_nf rfl) ?_; intro h7 F_h7
  exact fm_ret F_h7
set_option maxRecDepth 4000 in
theorem fw_J7_fill_53178_5 (nn : Nat) : ∀ (k : Nat) {l0 : Nat} {l1 : Int} {l2 : Int} {l3 : Int} {h : ms_M}, Fm_ (fun c (_ : Nat) => c ≠ l0) h (qw_J7_fill_53178_5 nn k l0 l1 l2 l3 h) (fun r => r) := by
  intro k
  induction k with
  | zero => intros; exact fm_no
  | succ k ih =>
    intro l0 l1 l2 l3 h
    unfold qw_J7_fill_53178_5
    have F_h : ∀ c k : Nat, (fun c (_ : Nat) => c ≠ l0) c k → h c k = h c k := fun _ _ _ => rfl
    have hn : ∀ d i : Nat, (fun c (_ : Nat) => c ≠ l0) d i → d ≠ l0 := fun _ _ z => z
    refine fm_if ?_ ?_
    · exact fm_ret F_h
    · refine fm_wS F_h hn ?_; intro h1 F_h1
      refine fm_xl ?_; intro v2
      exact fm_tl F_h1 (ih ) (fun _ _ z => z)
set_option maxRecDepth 4000 in
theorem ff_J7_fill_53178 (nn : Nat) {a0 : Nat} {a1 : Int} {h : ms_M} : Fm_ (fun c (_ : Nat) => c ≠ a0) h (qf_J7_fill_53178 nn a0 a1 h) (fun r => r) := by
  unfold qf_J7_fill_53178
  have F_h : ∀ c k : Nat, (fun c (_ : Nat) => c ≠ a0) c k → h c k = h c k := fun _ _ _ => rfl
  have hn : ∀ d i : Nat, (fun c (_ : Nat) => c ≠ a0) d i → d ≠ a0 := fun _ _ z => z
  refine fm_lnS ?_; intro v4
  exact fm_tl F_h (fw_J7_fill_53178_5 nn _) (fun _ _ z => z)
set_option maxRecDepth 4000 in
theorem fw_X4_settle_38 (nn : Nat) {qkk_2 : Nat → Int → ms_M → Option ms_M} (hk_kk_2 : ∀ {l0 : Nat} {l1 : Int} {h : ms_M} (hb_l0 : kc_O l0 = 4), Fm_ (fun c (_ : Nat) => c ≠ l0 + 1 ∧ c ≠ l0 + 2) h (qkk_2 l0 l1 h) (fun r => r)) : ∀ (k : Nat) {l0 : Nat} {l1 : Int} {l2 : Int} {l3 : Int} {h : ms_M} (hb_l0 : kc_O l0 = 4), Fm_ (fun c (_ : Nat) => c ≠ l0 + 1 ∧ c ≠ l0 + 2) h (qw_X4_settle_38 nn qkk_2 k l0 l1 l2 l3 h) (fun r => r) := by
  intro k
  induction k with
  | zero => intros; exact fm_no
  | succ k ih =>
    intro l0 l1 l2 l3 h hb_l0
    unfold qw_X4_settle_38
    have F_h : ∀ c k : Nat, (fun c (_ : Nat) => c ≠ l0 + 1 ∧ c ≠ l0 + 2) c k → h c k = h c k := fun _ _ _ => rfl
    refine fm_if ?_ ?_
    · refine fm_xl ?_; intro v1
      exact fm_tl F_h (hk_kk_2 hb_l0) (fun _ _ z => z)
    · refine fm_if ?_ ?_
      · refine fm_xl ?_; intro v2
        exact fm_tl F_h (hk_kk_2 hb_l0) (fun _ _ z => z)
      · refine fm_if ?_ ?_
        · refine fm_xl ?_; intro v3
          exact fm_tl F_h (hk_kk_2 hb_l0) (fun _ _ z => z)
        · refine fm_xl ?_; intro v5
          refine fm_xl ?_; intro v6
          refine fm_wZ F_h (fun _ _ z => z.2) ?_; intro h7 F_h7
          refine fm_rd ?_; intro v9
          refine fm_xl ?_; intro v10
          exact fm_tl F_h7 (ih hb_l0) (fun _ _ z => z)
set_option maxRecDepth 4000 in
theorem fw_X4_settle_10 (nn : Nat) {qkk_2 : Nat → Int → ms_M → Option ms_M} (hk_kk_2 : ∀ {l0 : Nat} {l1 : Int} {h : ms_M} (hb_l0 : kc_O l0 = 4), Fm_ (fun c (_ : Nat) => c ≠ l0 + 1 ∧ c ≠ l0 + 2) h (qkk_2 l0 l1 h) (fun r => r)) : ∀ (k : Nat) {l0 : Nat} {l1 : Int} {l2 : Int} {h : ms_M} (hb_l0 : kc_O l0 = 4), Fm_ (fun c (_ : Nat) => c ≠ l0 + 1 ∧ c ≠ l0 + 2) h (qw_X4_settle_10 nn qkk_2 k l0 l1 l2 h) (fun r => r) := by
  intro k
  induction k with
  | zero => intros; exact fm_no
  | succ k ih =>
    intro l0 l1 l2 h hb_l0
    unfold qw_X4_settle_10
    have F_h : ∀ c k : Nat, (fun c (_ : Nat) => c ≠ l0 + 1 ∧ c ≠ l0 + 2) c k → h c k = h c k := fun _ _ _ => rfl
    refine fm_if ?_ ?_
    · exact fm_tl F_h (fw_X4_settle_38 nn hk_kk_2 _ hb_l0) (fun _ _ z => z)
    · refine fm_xl ?_; intro v15
      refine fm_xl ?_; intro v16
      refine fm_wZ F_h (fun _ _ z => z.2) ?_; intro h17 F_h17
      refine fm_xl ?_; intro v18
      exact fm_tl F_h17 (ih hb_l0) (fun _ _ z => z)
set_option maxRecDepth 4000 in
theorem fw_X4_settle_2 (nn : Nat) : ∀ (k : Nat) {l0 : Nat} {l1 : Int} {h : ms_M} (hb_l0 : kc_O l0 = 4), Fm_ (fun c (_ : Nat) => c ≠ l0 + 1 ∧ c ≠ l0 + 2) h (qw_X4_settle_2 nn k l0 l1 h) (fun r => r) := by
  intro k
  induction k with
  | zero => intros; exact fm_no
  | succ k ih =>
    intro l0 l1 h hb_l0
    unfold qw_X4_settle_2
    have F_h : ∀ c k : Nat, (fun c (_ : Nat) => c ≠ l0 + 1 ∧ c ≠ l0 + 2) c k → h c k = h c k := fun _ _ _ => rfl
    refine fm_if ?_ ?_
    · exact fm_ret F_h
    · exact fm_tl F_h (fw_X4_settle_10 nn ih _ hb_l0) (fun _ _ z => z)
set_option maxRecDepth 4000 in
theorem ff_X4_settle (nn : Nat) {a0 : Nat} {h : ms_M} (hb_a0 : kc_O a0 = 4) : Fm_ (fun c (_ : Nat) => c ≠ a0 + 1 ∧ c ≠ a0 + 2) h (qf_X4_settle nn a0 h) (fun r => r) := by
  unfold qf_X4_settle
  have F_h : ∀ c k : Nat, (fun c (_ : Nat) => c ≠ a0 + 1 ∧ c ≠ a0 + 2) c k → h c k = h c k := fun _ _ _ => rfl
  exact fm_tl F_h (fw_X4_settle_2 nn _ hb_a0) (fun _ _ z => z)
set_option maxRecDepth 4000 in
theorem fw_X4_forget_10 (nn : Nat) : ∀ (k : Nat) {l0 : Nat} {l1 : Int} {h : ms_M} (hb_l0 : kc_O l0 = 4), Fm_ (fun c (_ : Nat) => c ≠ l0 + 1 ∧ c ≠ l0 + 2) h (qw_X4_forget_10 nn k l0 l1 h) (fun r => r) := by
  intro k
  induction k with
  | zero => intros; exact fm_no
  | succ k ih =>
    intro l0 l1 h hb_l0
    unfold qw_X4_forget_10
    have F_h : ∀ c k : Nat, (fun c (_ : Nat) => c ≠ l0 + 1 ∧ c ≠ l0 + 2) c k → h c k = h c k := fun _ _ _ => rfl
    refine fm_if ?_ ?_
    · refine fm_ca F_h (ff_X4_settle nn hb_l0) (fun _ _ z => z) ?_; intro u2 F_u2
      exact fm_ret F_u2
    · refine fm_if ?_ ?_
      · refine fm_wA F_h (fun _ _ z => z.1) ?_; intro h4 F_h4
        refine fm_xl ?_; intro v5
        exact fm_tl F_h4 (ih hb_l0) (fun _ _ z => z)
      · refine fm_wA F_h (fun _ _ z => z.1) ?_; intro h6 F_h6
        refine fm_xl ?_; intro v7
        exact fm_tl F_h6 (ih hb_l0) (fun _ _ z => z)
set_option maxRecDepth 4000 in
theorem ff_X4_forget (nn : Nat) {a0 : Nat} {h : ms_M} (hb_a0 : kc_O a0 = 4) : Fm_ (fun c (_ : Nat) => c ≠ a0 + 1 ∧ c ≠ a0 + 2) h (qf_X4_forget nn a0 h) (fun r => r) := by
  unfold qf_X4_forget
  have F_h : ∀ c k : Nat, (fun c (_ : Nat) => c ≠ a0 + 1 ∧ c ≠ a0 + 2) c k → h c k = h c k := fun _ _ _ => rfl
  refine fm_ca F_h (ff_J7_fill_53178 nn) (fun _ _ z => z.1) ?_; intro u11 F_u11
  exact fm_tl F_u11 (fw_X4_forget_10 nn _ hb_a0) (fun _ _ z => z)
set_option maxRecDepth 4000 in
theorem ff_X7_forget (nn : Nat) {h : ms_M} : Fm_ (fun c k => nw_F wl_X7_forget wf_X7_forget false false c k = true) h (qf_X7_forget nn h) (fun r => r) := by
  unfold qf_X7_forget
  have F_h : ∀ c k : Nat, (fun c k => nw_F wl_X7_forget wf_X7_forget false false c k = true) c k → h c k = h c k := fun _ _ _ => rfl
  refine fm_up F_h (nw_nf rfl) ?_; intro h1 F_h1
  refine fm_up F_h1 (nw_nf rfl) ?_; intro h2 F_h2
  refine fm_ca F_h2 (ff_X4_forget nn rfl) (fun c k z => ⟨nw_ne rfl c k z, nw_ne rfl c k z⟩) ?_; intro u5 F_u5
  exact fm_ret F_u5
set_option maxRecDepth 4000 in
theorem ff_X12_clear (nn : Nat) {h : ms_M} : Fm_ (fun c k => nw_F wl_X12_clear wf_X12_clear false false c k = true) h (qf_X12_clear nn h) (fun r => r) := by
  unfold qf_X12_clear
  have F_h : ∀ c k : Nat, (fun c k => nw_F wl_X12_clear wf_X12_clear false false c k = true) c k → h c k = h c k := fun _ _ _ => rfl
  refine fm_ca F_h (ff_X7_forget nn) (nw_sub rfl) ?_; intro u3 F_u3
  refine fm_ca F_u3 (ff_X5_forget nn) (nw_sub rfl) ?_; intro u6 F_u6
  exact fm_ret F_u6
set_option maxRecDepth 4000 in
theorem fw_X6_constant_2 (nn : Nat) : ∀ (k : Nat) {l1 : Int} {l2 : Int} {l3 : Int} {h : ms_M}, Fm_ (fun c k => nw_F wl_X6_constant wf_X6_constant false false c k = true) h (qw_X6_constant_2 nn k l1 l2 l3 h) (fun r => r.2) := by
  intro k
  induction k with
  | zero => intros; exact fm_no
  | succ k ih =>
    intro l1 l2 l3 h
    unfold qw_X6_constant_2
    have F_h : ∀ c k : Nat, (fun c k => nw_F wl_X6_constant wf_X6_constant false false c k = true) c k → h c k = h c k := fun _ _ _ => rfl
    refine fm_if ?_ ?_
    · refine fm_if ?_ ?_
      · refine fm_xl ?_; intro v4
        refine fm_up F_h (nw_nf rfl) ?_; intro h5 F_h5
        refine fm_wA F_h5 (nw_ne rfl) ?_; intro h8 F_h8
        refine fm_wA F_h8 (nw_ne rfl) ?_; intro h11 F_h11
        exact fm_ret F_h11
      · refine fm_up F_h (nw_nf rfl) ?_; intro h13 F_h13
        exact fm_ret F_h13
    · refine fm_rd ?_; intro v16
      refine fm_if ?_ ?_
      · refine fm_xl ?_; intro v17
        exact fm_tl F_h (ih ) (fun _ _ z => z)
      · refine fm_rd ?_; intro v19
        refine fm_if ?_ ?_
        · refine fm_xl ?_; intro v20
          exact fm_tl F_h (ih ) (fun _ _ z => z)
        · exact fm_ret F_h
set_option maxRecDepth 4000 in
theorem ff_X6_constant (nn : Nat) {a1 : Int} {a2 : Int} {h : ms_M} : Fm_ (fun c k => nw_F wl_X6_constant wf_X6_constant false false c k = true) h (qf_X6_constant nn a1 a2 h) (fun r => r.2) := by
  unfold qf_X6_constant
  have F_h : ∀ c k : Nat, (fun c k => nw_F wl_X6_constant wf_X6_constant false false c k = true) c k → h c k = h c k := fun _ _ _ => rfl
  exact fm_tl F_h (fw_X6_constant_2 nn _) (fun _ _ z => z)
set_option maxRecDepth 4000 in
theorem ff_X6_classOf (nn : Nat) {a1 : Int} {h : ms_M} : Fm_ (fun c k => nw_F wl_X6_classOf wf_X6_classOf false false c k = true) h (qf_X6_classOf nn a1 h) (fun r => r.2) := by
  unfold qf_X6_classOf
  have F_h : ∀ c k : Nat, (fun c k => nw_F wl_X6_classOf wf_X6_classOf false false c k = true) c k → h c k = h c k := fun _ _ _ => rfl
  refine fm_pu ?_; intro u3
  refine fm_ca F_h (ff_X6_constant nn) (nw_sub rfl) ?_; intro u5 F_u5
  refine fm_ca F_u5 (ff_X6_constant nn) (nw_sub rfl) ?_; intro u7 F_u7
  exact fm_ret F_u7
set_option maxRecDepth 4000 in
theorem fj_X6_put_23 (nn : Nat) {h : ms_M} : Fm_ (fun c k => nw_F wl_X6_put wf_X6_put false false c k = true) h (qj_X6_put_23 nn h) (fun r => r) := by
  unfold qj_X6_put_23
  have F_h : ∀ c k : Nat, (fun c k => nw_F wl_X6_put wf_X6_put false false c k = true) c k → h c k = h c k := fun _ _ _ => rfl
  refine fm_xl ?_; intro v2
  refine fm_up F_h (nw_nf rfl) ?_; intro h3 F_h3
  exact fm_ret F_h3
set_option maxRecDepth 4000 in
theorem ff_X6_put (nn : Nat) {a1 : Int} {h : ms_M} : Fm_ (fun c k => nw_F wl_X6_put wf_X6_put false false c k = true) h (qf_X6_put nn a1 h) (fun r => r) := by
  unfold qf_X6_put
  have F_h : ∀ c k : Nat, (fun c k => nw_F wl_X6_put wf_X6_put false false c k = true) c k → h c k = h c k := fun _ _ _ => rfl
  refine fm_if ?_ ?_
  · exact fm_tl F_h (fj_X6_put_23 nn) (fun _ _ z => z)
  · refine fm_xl ?_; intro v9
    refine fm_wB F_h (nw_ne rfl) ?_; intro h10 F_h10
    exact fm_tl F_h10 (fj_X6_put_23 nn) (fun _ _ z => z)
set_option maxRecDepth 4000 in
theorem fw_X6_beginClass_62 (nn : Nat) : ∀ (k : Nat) {l1 : Int} {l3 : Int} {h : ms_M}, Fm_ (fun c k => nw_F wl_X6_beginClass wf_X6_beginClass false false c k = true) h (qw_X6_beginClass_62 nn k l1 l3 h) (fun r => r) := by
  intro k
  induction k with
  | zero => intros; exact fm_no
  | succ k ih =>
    intro l1 l3 h
    unfold qw_X6_beginClass_62
    have F_h : ∀ c k : Nat, (fun c k => nw_F wl_X6_beginClass wf_X6_beginClass false false c k = true) c k → h c k = h c k := fun _ _ _ => rfl
    refine fm_pu ?_; intro u3
    refine fm_if ?_ ?_
    · refine fm_pu ?_; intro u6
      refine fm_ca F_h (ff_X6_put nn) (nw_sub rfl) ?_; intro u8 F_u8
      exact fm_ret F_u8
    · refine fm_xl ?_; intro v9
      refine fm_xl ?_; intro v10
      refine fm_pu ?_; intro u13
      refine fm_ca F_h (ff_X6_constant nn) (nw_sub rfl) ?_; intro u15 F_u15
      refine fm_ca F_u15 (ff_X6_put nn) (nw_sub rfl) ?_; intro u17 F_u17
      refine fm_pu ?_; intro u20
      refine fm_ca F_u17 (ff_X6_constant nn) (nw_sub rfl) ?_; intro u22 F_u22
      refine fm_ca F_u22 (ff_X6_put nn) (nw_sub rfl) ?_; intro u24 F_u24
      refine fm_xl ?_; intro v25
      exact fm_tl F_u24 (ih ) (fun _ _ z => z)
set_option maxRecDepth 4000 in
theorem ff_X6_beginClass (nn : Nat) {a1 : Int} {h : ms_M} : Fm_ (fun c k => nw_F wl_X6_beginClass wf_X6_beginClass false false c k = true) h (qf_X6_beginClass nn a1 h) (fun r => r) := by
  unfold qf_X6_beginClass
  have F_h : ∀ c k : Nat, (fun c k => nw_F wl_X6_beginClass wf_X6_beginClass false false c k = true) c k → h c k = h c k := fun _ _ _ => rfl
  refine fm_up F_h (nw_nf rfl) ?_; intro h27 F_h27
  refine fm_up F_h27 (nw_nf rfl) ?_; intro h28 F_h28
  refine fm_up F_h28 (nw_nf rfl) ?_; intro h29 F_h29
  refine fm_xl ?_; intro v30
  refine fm_ca F_h29 (ff_X6_classOf nn) (nw_sub rfl) ?_; intro u32 F_u32
  refine fm_ca F_u32 (ff_X6_put nn) (nw_sub rfl) ?_; intro u34 F_u34
  refine fm_pu ?_; intro u38
  refine fm_ca F_u34 (ff_X6_classOf nn) (nw_sub rfl) ?_; intro u40 F_u40
  refine fm_ca F_u40 (ff_X6_put nn) (nw_sub rfl) ?_; intro u42 F_u42
  refine fm_pu ?_; intro u45
  refine fm_ca F_u42 (ff_X6_put nn) (nw_sub rfl) ?_; intro u47 F_u47
  exact fm_tl F_u47 (fw_X6_beginClass_62 nn _) (fun _ _ z => z)
set_option maxRecDepth 4000 in
theorem ff_X0_beginClass (nn : Nat) {a1 : Int} {h : ms_M} : Fm_ (fun c k => nw_F wl_X0_beginClass wf_X0_beginClass false false c k = true) h (qf_X0_beginClass nn a1 h) (fun r => r) := by
  unfold qf_X0_beginClass
  have F_h : ∀ c k : Nat, (fun c k => nw_F wl_X0_beginClass wf_X0_beginClass false false c k = true) c k → h c k = h c k := fun _ _ _ => rfl
  refine fm_ca F_h (ff_X6_beginClass nn) (nw_sub rfl) ?_; intro u3 F_u3
  exact fm_ret F_u3
set_option maxRecDepth 4000 in
theorem ff_X0_beginProgram (nn : Nat) {h : ms_M} : Fm_ (fun c k => nw_F wl_X0_beginProgram wf_X0_beginProgram false false c k = true) h (qf_X0_beginProgram nn h) (fun r => r) := by
  unfold qf_X0_beginProgram
  have F_h : ∀ c k : Nat, (fun c k => nw_F wl_X0_beginProgram wf_X0_beginProgram false false c k = true) c k → h c k = h c k := fun _ _ _ => rfl
  refine fm_up F_h (nw_nf rfl) ?_; intro h1 F_h1
  exact fm_ret F_h1
set_option maxRecDepth 4000 in
theorem ff_X0_noteMuch (nn : Nat) {a1 : Int} {a2 : Int} {h : ms_M} : Fm_ (fun c k => nw_F wl_X0_noteMuch wf_X0_noteMuch false false c k = true) h (qf_X0_noteMuch nn a1 a2 h) (fun r => r) := by
  unfold qf_X0_noteMuch
  have F_h : ∀ c k : Nat, (fun c k => nw_F wl_X0_noteMuch wf_X0_noteMuch false false c k = true) c k → h c k = h c k := fun _ _ _ => rfl
  refine fm_if ?_ ?_
  · exact fm_ret F_h
  · refine fm_if ?_ ?_
    · exact fm_ret F_h
    · refine fm_up F_h (nw_nf rfl) ?_; intro h2 F_h2
      exact fm_ret F_h2
set_option maxRecDepth 4000 in
theorem ff_X9_copyName (nn : Nat) {a1 : Int} {a2 : Nat} {a3 : Int} {h : ms_M} : Fm_ (fun c k => nw_F wl_X9_copyName wf_X9_copyName false true c k = true) h (qf_X9_copyName nn a1 a2 a3 h) (fun r => r) := by
  unfold qf_X9_copyName
  have F_h : ∀ c k : Nat, (fun c k => nw_F wl_X9_copyName wf_X9_copyName false true c k = true) c k → h c k = h c k := fun _ _ _ => rfl
  refine fm_pu ?_; intro u2
  refine fm_if ?_ ?_
  · exact fm_ret F_h
  · refine fm_xl ?_; intro v3
    refine fm_lnS ?_; intro v4
    refine fm_if ?_ ?_
    · exact fm_ret F_h
    · refine fm_if ?_ ?_
      · exact fm_ret F_h
      · refine fm_rd ?_; intro v7
        refine fm_cp F_h (fun z => nw_neB (z.symm.trans rfl)) ?_; intro h8 F_h8
        exact fm_ret F_h8
set_option maxRecDepth 4000 in
theorem fw_X6_writeConstant_83 (nn : Nat) : ∀ (k : Nat) {l1 : Int} {l2 : Nat} {l3 : Int} {l4 : Int} {l5 : Int} {h : ms_M}, Fm_ (fun c k => nw_F wl_X6_writeConstant wf_X6_writeConstant false true c k = true) h (qw_X6_writeConstant_83 nn k l1 l2 l3 l4 l5 h) (fun r => r) := by
  intro k
  induction k with
  | zero => intros; exact fm_no
  | succ k ih =>
    intro l1 l2 l3 l4 l5 h
    unfold qw_X6_writeConstant_83
    have F_h : ∀ c k : Nat, (fun c k => nw_F wl_X6_writeConstant wf_X6_writeConstant false true c k = true) c k → h c k = h c k := fun _ _ _ => rfl
    refine fm_if ?_ ?_
    · exact fm_ret F_h
    · refine fm_xl ?_; intro v1
      refine fm_rd ?_; intro v3
      refine fm_xl ?_; intro v4
      refine fm_xl ?_; intro v5
      refine fm_xl ?_; intro v6
      refine fm_xl ?_; intro v7
      refine fm_xl ?_; intro v8
      refine fm_wT F_h (fun z => nw_neB z) ?_; intro h9 F_h9
      refine fm_xl ?_; intro v10
      exact fm_tl F_h9 (ih ) (fun _ _ z => z)
set_option maxRecDepth 4000 in
theorem ff_X6_writeConstant (nn : Nat) {a1 : Int} {a2 : Nat} {a3 : Int} {h : ms_M} : Fm_ (fun c k => nw_F wl_X6_writeConstant wf_X6_writeConstant false true c k = true) h (qf_X6_writeConstant nn a1 a2 a3 h) (fun r => r) := by
  unfold qf_X6_writeConstant
  have F_h : ∀ c k : Nat, (fun c k => nw_F wl_X6_writeConstant wf_X6_writeConstant false true c k = true) c k → h c k = h c k := fun _ _ _ => rfl
  refine fm_rd ?_; intro v13
  refine fm_rd ?_; intro v15
  refine fm_pu ?_; intro u17
  refine fm_if ?_ ?_
  · exact fm_ret F_h
  · refine fm_xl ?_; intro v18
    refine fm_lnS ?_; intro v19
    refine fm_if ?_ ?_
    · refine fm_rd ?_; intro v21
      refine fm_xl ?_; intro v22
      refine fm_wT F_h (fun z => nw_neB z) ?_; intro h23 F_h23
      refine fm_rd ?_; intro v25
      refine fm_if ?_ ?_
      · exact fm_tl F_h23 (fw_X6_writeConstant_83 nn _) (fun _ _ z => z)
      · refine fm_xl ?_; intro v26
        refine fm_xl ?_; intro v27
        refine fm_xl ?_; intro v28
        refine fm_wT F_h23 (fun z => nw_neB z) ?_; intro h29 F_h29
        refine fm_rd ?_; intro v32
        refine fm_xl ?_; intro v33
        refine fm_ca F_h29 (ff_X9_copyName nn) (nw_sub rfl) ?_; intro u35 F_u35
        exact fm_ret F_u35
    · exact fm_ret F_h
set_option maxRecDepth 4000 in
theorem fw_X6_closeImage_40 (nn : Nat) : ∀ (k : Nat) {l1 : Nat} {l2 : Int} {l3 : Int} {h : ms_M} {c : Nat} {s : Nat}, Fm_ (fun c k => nw_F wl_X6_closeImage wf_X6_closeImage false true c k = true) h (qw_X6_closeImage_40 nn k l1 l2 l3 h c s) (fun r => r.2.1) := by
  intro k
  induction k with
  | zero => intros; exact fm_no
  | succ k ih =>
    intro l1 l2 l3 h c s
    unfold qw_X6_closeImage_40
    have F_h : ∀ c k : Nat, (fun c k => nw_F wl_X6_closeImage wf_X6_closeImage false true c k = true) c k → h c k = h c k := fun _ _ _ => rfl
    refine fm_if ?_ ?_
    · refine fm_cp F_h (fun z => nw_neB (z.symm.trans rfl)) ?_; intro h4 F_h4
      exact fm_ret F_h4
    · refine fm_ca F_h (ff_X6_writeConstant nn) (nw_sub rfl) ?_; intro u6 F_u6
      refine fm_rd ?_; intro v8
      refine fm_rd ?_; intro v10
      refine fm_pu ?_; intro u12
      refine fm_xl ?_; intro v13
      refine fm_xl ?_; intro v14
      exact fm_tl F_u6 (ih ) (fun _ _ z => z)
set_option maxRecDepth 4000 in
theorem ff_X6_closeImage (nn : Nat) {h : ms_M} : Fm_ (fun c k => nw_F wl_X6_closeImage wf_X6_closeImage false true c k = true) h (qf_X6_closeImage nn h) (fun r => r.2.1) := by
  unfold qf_X6_closeImage
  have F_h : ∀ c k : Nat, (fun c k => nw_F wl_X6_closeImage wf_X6_closeImage false true c k = true) c k → h c k = h c k := fun _ _ _ => rfl
  refine fm_pu ?_; intro u17
  refine fm_if ?_ ?_
  · refine fm_pu ?_; intro u19
    refine fm_ck ?_; intro _
    refine fm_nw F_h (fun _ z => nw_neB z) ?_; intro b_u21 h_u21 tb_u21 F_u21
    refine fm_wT F_u21 (fun z => nw_neB z) ?_; intro h22 F_h22
    refine fm_wT F_h22 (fun z => nw_neB z) ?_; intro h23 F_h23
    refine fm_xl ?_; intro v25
    refine fm_wT F_h23 (fun z => nw_neB z) ?_; intro h26 F_h26
    exact fm_tl F_h26 (fw_X6_closeImage_40 nn _) (fun _ _ z => z)
  · refine fm_ck ?_; intro _
    refine fm_nw F_h (fun _ z => nw_neB z) ?_; intro b_u28 h_u28 tb_u28 F_u28
    exact fm_ret F_u28
set_option maxRecDepth 4000 in
theorem ff_X0_closeClass (nn : Nat) {a1 : Int} {h : ms_M} : Fm_ (fun c k => nw_F wl_X0_closeClass wf_X0_closeClass false true c k = true) h (qf_X0_closeClass nn a1 h) (fun r => r.1) := by
  unfold qf_X0_closeClass
  have F_h : ∀ c k : Nat, (fun c k => nw_F wl_X0_closeClass wf_X0_closeClass false true c k = true) c k → h c k = h c k := fun _ _ _ => rfl
  refine fm_pu ?_; intro u3
  refine fm_pu ?_; intro u6
  refine fm_ca F_h (ff_X0_noteMuch nn) (nw_sub rfl) ?_; intro u8 F_u8
  refine fm_if ?_ ?_
  · exact fm_ret F_u8
  · refine fm_if ?_ ?_
    · exact fm_ret F_u8
    · refine fm_if ?_ ?_
      · exact fm_ret F_u8
      · refine fm_if ?_ ?_
        · exact fm_ret F_u8
        · refine fm_ca F_u8 (ff_X6_closeImage nn) (nw_sub rfl) ?_; intro u17 F_u17
          refine fm_wQB F_u17 (nw_ne rfl) ?_; intro h18 F_h18
          exact fm_ret F_h18
set_option maxRecDepth 4000 in
theorem ff_X9_tell (nn : Nat) {a1 : Int} {a2 : Int} {h : ms_M} : Fm_ (fun c k => nw_F wl_X9_tell wf_X9_tell false false c k = true) h (qf_X9_tell nn a1 a2 h) (fun r => r) := by
  unfold qf_X9_tell
  have F_h : ∀ c k : Nat, (fun c k => nw_F wl_X9_tell wf_X9_tell false false c k = true) c k → h c k = h c k := fun _ _ _ => rfl
  refine fm_if ?_ ?_
  · exact fm_ret F_h
  · refine fm_if ?_ ?_
    · exact fm_ret F_h
    · refine fm_if ?_ ?_
      · exact fm_ret F_h
      · refine fm_up F_h (nw_nf rfl) ?_; intro h3 F_h3
        refine fm_rd ?_; intro v5
        refine fm_up F_h3 (nw_nf rfl) ?_; intro h6 F_h6
        exact fm_ret F_h6
set_option maxRecDepth 4000 in
theorem ff_X0_closeProgram (nn : Nat) {h : ms_M} : Fm_ (fun c k => nw_F wl_X0_closeProgram wf_X0_closeProgram false false c k = true) h (qf_X0_closeProgram nn h) (fun r => r) := by
  unfold qf_X0_closeProgram
  have F_h : ∀ c k : Nat, (fun c k => nw_F wl_X0_closeProgram wf_X0_closeProgram false false c k = true) c k → h c k = h c k := fun _ _ _ => rfl
  refine fm_if ?_ ?_
  · exact fm_ret F_h
  · refine fm_ca F_h (ff_X9_tell nn) (nw_sub rfl) ?_; intro u5 F_u5
    exact fm_ret F_u5
set_option maxRecDepth 4000 in
theorem ff_X10_wantType (nn : Nat) {a1 : Int} {a2 : Int} {h : ms_M} : Fm_ (fun c k => nw_F wl_X10_wantType wf_X10_wantType false false c k = true) h (qf_X10_wantType nn a1 a2 h) (fun r => r) := by
  unfold qf_X10_wantType
  have F_h : ∀ c k : Nat, (fun c k => nw_F wl_X10_wantType wf_X10_wantType false false c k = true) c k → h c k = h c k := fun _ _ _ => rfl
  refine fm_if ?_ ?_
  · exact fm_ret F_h
  · refine fm_ca F_h (ff_X9_tell nn) (nw_sub rfl) ?_; intro u3 F_u3
    exact fm_ret F_u3
set_option maxRecDepth 4000 in
theorem ff_X1_aimAt (nn : Nat) {a1 : Int} {a2 : Int} {h : ms_M} : Fm_ (fun c k => nw_F wl_X1_aimAt wf_X1_aimAt false false c k = true) h (qf_X1_aimAt nn a1 a2 h) (fun r => r) := by
  unfold qf_X1_aimAt
  have F_h : ∀ c k : Nat, (fun c k => nw_F wl_X1_aimAt wf_X1_aimAt false false c k = true) c k → h c k = h c k := fun _ _ _ => rfl
  refine fm_xl ?_; intro v1
  refine fm_if ?_ ?_
  · exact fm_ret F_h
  · refine fm_xl ?_; intro v2
    refine fm_if ?_ ?_
    · exact fm_ret F_h
    · refine fm_xl ?_; intro v6
      refine fm_xl ?_; intro v7
      refine fm_xl ?_; intro v8
      refine fm_wB F_h (nw_ne rfl) ?_; intro h9 F_h9
      refine fm_xl ?_; intro v11
      refine fm_xl ?_; intro v12
      refine fm_wB F_h9 (nw_ne rfl) ?_; intro h13 F_h13
      exact fm_ret F_h13
set_option maxRecDepth 4000 in
theorem fj_X1_fillFrame_23 (nn : Nat) {h : ms_M} : Fm_ (fun c k => nw_F wl_X1_fillFrame wf_X1_fillFrame false false c k = true) h (qj_X1_fillFrame_23 nn h) (fun r => r) := by
  unfold qj_X1_fillFrame_23
  have F_h : ∀ c k : Nat, (fun c k => nw_F wl_X1_fillFrame wf_X1_fillFrame false false c k = true) c k → h c k = h c k := fun _ _ _ => rfl
  refine fm_up F_h (nw_nf rfl) ?_; intro h1 F_h1
  exact fm_ret F_h1
set_option maxRecDepth 4000 in
theorem ff_X1_fillFrame (nn : Nat) {a1 : Int} {a2 : Int} {a3 : Int} {h : ms_M} : Fm_ (fun c k => nw_F wl_X1_fillFrame wf_X1_fillFrame false false c k = true) h (qf_X1_fillFrame nn a1 a2 a3 h) (fun r => r) := by
  unfold qf_X1_fillFrame
  have F_h : ∀ c k : Nat, (fun c k => nw_F wl_X1_fillFrame wf_X1_fillFrame false false c k = true) c k → h c k = h c k := fun _ _ _ => rfl
  refine fm_xl ?_; intro v2
  refine fm_if ?_ ?_
  · exact fm_tl F_h (fj_X1_fillFrame_23 nn) (fun _ _ z => z)
  · refine fm_if ?_ ?_
    · exact fm_tl F_h (fj_X1_fillFrame_23 nn) (fun _ _ z => z)
    · refine fm_if ?_ ?_
      · refine fm_wA F_h (nw_ne rfl) ?_; intro h4 F_h4
        refine fm_xl ?_; intro v6
        refine fm_wA F_h4 (nw_ne rfl) ?_; intro h7 F_h7
        refine fm_xl ?_; intro v10
        refine fm_cp F_h7 (fun _ => nw_ne rfl) ?_; intro h11 F_h11
        refine fm_xl ?_; intro v14
        refine fm_xl ?_; intro v15
        refine fm_cp F_h11 (fun _ => nw_ne rfl) ?_; intro h16 F_h16
        exact fm_ret F_h16
      · exact fm_tl F_h (fj_X1_fillFrame_23 nn) (fun _ _ z => z)
set_option maxRecDepth 4000 in
theorem fj_X1_slotOfFrame_62 (nn : Nat) {l1 : Int} {l2 : Int} {h : ms_M} : Fm_ (fun c k => nw_F wl_X1_slotOfFrame wf_X1_slotOfFrame false false c k = true) h (qj_X1_slotOfFrame_62 nn l1 l2 h) (fun r => r.2) := by
  unfold qj_X1_slotOfFrame_62
  have F_h : ∀ c k : Nat, (fun c k => nw_F wl_X1_slotOfFrame wf_X1_slotOfFrame false false c k = true) c k → h c k = h c k := fun _ _ _ => rfl
  refine fm_if ?_ ?_
  · refine fm_xl ?_; intro v4
    refine fm_xl ?_; intro v6
    refine fm_cp F_h (fun _ => nw_ne rfl) ?_; intro h7 F_h7
    refine fm_wA F_h7 (nw_ne rfl) ?_; intro h10 F_h10
    refine fm_wA F_h10 (nw_ne rfl) ?_; intro h13 F_h13
    refine fm_xl ?_; intro v15
    refine fm_up F_h13 (nw_nf rfl) ?_; intro h16 F_h16
    refine fm_rd ?_; intro v18
    exact fm_ret F_h16
  · exact fm_ret F_h
set_option maxRecDepth 4000 in
theorem fj_X1_slotOfFrame_32 (nn : Nat) {l1 : Int} {l2 : Int} {h : ms_M} : Fm_ (fun c k => nw_F wl_X1_slotOfFrame wf_X1_slotOfFrame false false c k = true) h (qj_X1_slotOfFrame_32 nn l1 l2 h) (fun r => r.2) := by
  unfold qj_X1_slotOfFrame_32
  have F_h : ∀ c k : Nat, (fun c k => nw_F wl_X1_slotOfFrame wf_X1_slotOfFrame false false c k = true) c k → h c k = h c k := fun _ _ _ => rfl
  refine fm_if ?_ ?_
  · exact fm_tl F_h (fj_X1_slotOfFrame_62 nn) (fun _ _ z => z)
  · refine fm_xl ?_; intro v22
    refine fm_rd ?_; intro v23
    refine fm_rd ?_; intro v24
    refine fm_if ?_ ?_
    · exact fm_tl F_h (fj_X1_slotOfFrame_62 nn) (fun _ _ z => z)
    · refine fm_xl ?_; intro v26
      refine fm_rd ?_; intro v27
      exact fm_ret F_h
set_option maxRecDepth 4000 in
theorem fw_X1_slotOfFrame_5 (nn : Nat) : ∀ (k : Nat) {l1 : Int} {l2 : Int} {h : ms_M}, Fm_ (fun c k => nw_F wl_X1_slotOfFrame wf_X1_slotOfFrame false false c k = true) h (qw_X1_slotOfFrame_5 nn k l1 l2 h) (fun r => r.2) := by
  intro k
  induction k with
  | zero => intros; exact fm_no
  | succ k ih =>
    intro l1 l2 h
    unfold qw_X1_slotOfFrame_5
    have F_h : ∀ c k : Nat, (fun c k => nw_F wl_X1_slotOfFrame wf_X1_slotOfFrame false false c k = true) c k → h c k = h c k := fun _ _ _ => rfl
    refine fm_if ?_ ?_
    · exact fm_tl F_h (fj_X1_slotOfFrame_32 nn) (fun _ _ z => z)
    · refine fm_xl ?_; intro v32
      refine fm_rd ?_; intro v33
      refine fm_rd ?_; intro v34
      refine fm_if ?_ ?_
      · exact fm_tl F_h (fj_X1_slotOfFrame_32 nn) (fun _ _ z => z)
      · refine fm_xl ?_; intro v35
        exact fm_tl F_h (ih ) (fun _ _ z => z)
set_option maxRecDepth 4000 in
theorem ff_X1_slotOfFrame (nn : Nat) {a1 : Int} {h : ms_M} : Fm_ (fun c k => nw_F wl_X1_slotOfFrame wf_X1_slotOfFrame false false c k = true) h (qf_X1_slotOfFrame nn a1 h) (fun r => r.2) := by
  unfold qf_X1_slotOfFrame
  have F_h : ∀ c k : Nat, (fun c k => nw_F wl_X1_slotOfFrame wf_X1_slotOfFrame false false c k = true) c k → h c k = h c k := fun _ _ _ => rfl
  exact fm_tl F_h (fw_X1_slotOfFrame_5 nn _) (fun _ _ z => z)
set_option maxRecDepth 4000 in
theorem ff_X1_aimHere (nn : Nat) {a1 : Int} {h : ms_M} : Fm_ (fun c k => nw_F wl_X1_aimHere wf_X1_aimHere false false c k = true) h (qf_X1_aimHere nn a1 h) (fun r => r) := by
  unfold qf_X1_aimHere
  have F_h : ∀ c k : Nat, (fun c k => nw_F wl_X1_aimHere wf_X1_aimHere false false c k = true) c k → h c k = h c k := fun _ _ _ => rfl
  refine fm_ca F_h (ff_X1_aimAt nn) (nw_sub rfl) ?_; intro u3 F_u3
  refine fm_ca F_u3 (ff_X1_slotOfFrame nn) (nw_sub rfl) ?_; intro u6 F_u6
  refine fm_ca F_u6 (ff_X1_fillFrame nn) (nw_sub rfl) ?_; intro u10 F_u10
  exact fm_ret F_u10
set_option maxRecDepth 4000 in
theorem fj_X1_op_23 (nn : Nat) {h : ms_M} : Fm_ (fun c k => nw_F wl_X1_op wf_X1_op false false c k = true) h (qj_X1_op_23 nn h) (fun r => r) := by
  unfold qj_X1_op_23
  have F_h : ∀ c k : Nat, (fun c k => nw_F wl_X1_op wf_X1_op false false c k = true) c k → h c k = h c k := fun _ _ _ => rfl
  refine fm_xl ?_; intro v2
  refine fm_up F_h (nw_nf rfl) ?_; intro h3 F_h3
  exact fm_ret F_h3
set_option maxRecDepth 4000 in
theorem ff_X1_op (nn : Nat) {a1 : Int} {h : ms_M} : Fm_ (fun c k => nw_F wl_X1_op wf_X1_op false false c k = true) h (qf_X1_op nn a1 h) (fun r => r) := by
  unfold qf_X1_op
  have F_h : ∀ c k : Nat, (fun c k => nw_F wl_X1_op wf_X1_op false false c k = true) c k → h c k = h c k := fun _ _ _ => rfl
  refine fm_if ?_ ?_
  · exact fm_tl F_h (fj_X1_op_23 nn) (fun _ _ z => z)
  · refine fm_xl ?_; intro v9
    refine fm_wB F_h (nw_ne rfl) ?_; intro h10 F_h10
    exact fm_tl F_h10 (fj_X1_op_23 nn) (fun _ _ z => z)
set_option maxRecDepth 4000 in
theorem ff_X1_pop (nn : Nat) {a1 : Int} {h : ms_M} : Fm_ (fun c k => nw_F wl_X1_pop wf_X1_pop false false c k = true) h (qf_X1_pop nn a1 h) (fun r => r) := by
  unfold qf_X1_pop
  have F_h : ∀ c k : Nat, (fun c k => nw_F wl_X1_pop wf_X1_pop false false c k = true) c k → h c k = h c k := fun _ _ _ => rfl
  refine fm_xl ?_; intro v2
  refine fm_xl ?_; intro v3
  refine fm_up F_h (nw_nf rfl) ?_; intro h4 F_h4
  exact fm_ret F_h4
set_option maxRecDepth 4000 in
theorem ff_X1_jump (nn : Nat) {a1 : Int} {a2 : Int} {h : ms_M} : Fm_ (fun c k => nw_F wl_X1_jump wf_X1_jump false false c k = true) h (qf_X1_jump nn a1 a2 h) (fun r => r.2) := by
  unfold qf_X1_jump
  have F_h : ∀ c k : Nat, (fun c k => nw_F wl_X1_jump wf_X1_jump false false c k = true) c k → h c k = h c k := fun _ _ _ => rfl
  refine fm_ca F_h (ff_X1_pop nn) (nw_sub rfl) ?_; intro u3 F_u3
  refine fm_ca F_u3 (ff_X1_op nn) (nw_sub rfl) ?_; intro u5 F_u5
  refine fm_ca F_u5 (ff_X1_op nn) (nw_sub rfl) ?_; intro u7 F_u7
  refine fm_ca F_u7 (ff_X1_op nn) (nw_sub rfl) ?_; intro u9 F_u9
  exact fm_ret F_u9
set_option maxRecDepth 4000 in
theorem fj_X1_push_22 (nn : Nat) {h : ms_M} : Fm_ (fun c k => nw_F wl_X1_push wf_X1_push false false c k = true) h (qj_X1_push_22 nn h) (fun r => r) := by
  unfold qj_X1_push_22
  have F_h : ∀ c k : Nat, (fun c k => nw_F wl_X1_push wf_X1_push false false c k = true) c k → h c k = h c k := fun _ _ _ => rfl
  refine fm_xl ?_; intro v2
  refine fm_up F_h (nw_nf rfl) ?_; intro h3 F_h3
  refine fm_xl ?_; intro v6
  refine fm_up F_h3 (nw_nf rfl) ?_; intro h7 F_h7
  exact fm_ret F_h7
set_option maxRecDepth 4000 in
theorem ff_X1_push (nn : Nat) {a1 : Int} {h : ms_M} : Fm_ (fun c k => nw_F wl_X1_push wf_X1_push false false c k = true) h (qf_X1_push nn a1 h) (fun r => r) := by
  unfold qf_X1_push
  have F_h : ∀ c k : Nat, (fun c k => nw_F wl_X1_push wf_X1_push false false c k = true) c k → h c k = h c k := fun _ _ _ => rfl
  refine fm_if ?_ ?_
  · exact fm_tl F_h (fj_X1_push_22 nn) (fun _ _ z => z)
  · refine fm_wA F_h (nw_ne rfl) ?_; intro h13 F_h13
    exact fm_tl F_h13 (fj_X1_push_22 nn) (fun _ _ z => z)
set_option maxRecDepth 4000 in
theorem fj_X10_closeShort_66 (nn : Nat) {l3 : Int} {s0 : Int} {h : ms_M} : Fm_ (fun c k => nw_F wl_X10_closeShort wf_X10_closeShort false false c k = true) h (qj_X10_closeShort_66 nn l3 s0 h) (fun r => r) := by
  unfold qj_X10_closeShort_66
  have F_h : ∀ c k : Nat, (fun c k => nw_F wl_X10_closeShort wf_X10_closeShort false false c k = true) c k → h c k = h c k := fun _ _ _ => rfl
  refine fm_ca F_h (ff_X1_op nn) (nw_sub rfl) ?_; intro u2 F_u2
  refine fm_ca F_u2 (ff_X1_push nn) (nw_sub rfl) ?_; intro u5 F_u5
  refine fm_ca F_u5 (ff_X1_aimHere nn) (nw_sub rfl) ?_; intro u8 F_u8
  refine fm_up F_u8 (nw_nf rfl) ?_; intro h9 F_h9
  exact fm_ret F_h9
set_option maxRecDepth 4000 in
theorem fj_X10_closeShort_16 (nn : Nat) {l1 : Int} {l2 : Int} {s0 : Int} {h : ms_M} : Fm_ (fun c k => nw_F wl_X10_closeShort wf_X10_closeShort false false c k = true) h (qj_X10_closeShort_16 nn l1 l2 s0 h) (fun r => r) := by
  unfold qj_X10_closeShort_16
  have F_h : ∀ c k : Nat, (fun c k => nw_F wl_X10_closeShort wf_X10_closeShort false false c k = true) c k → h c k = h c k := fun _ _ _ => rfl
  refine fm_ca F_h (ff_X10_wantType nn) (nw_sub rfl) ?_; intro u12 F_u12
  refine fm_ca F_u12 (ff_X1_jump nn) (nw_sub rfl) ?_; intro u15 F_u15
  refine fm_ca F_u15 (ff_X1_pop nn) (nw_sub rfl) ?_; intro u18 F_u18
  refine fm_ca F_u18 (ff_X1_aimHere nn) (nw_sub rfl) ?_; intro u21 F_u21
  refine fm_if ?_ ?_
  · exact fm_tl F_u21 (fj_X10_closeShort_66 nn) (fun _ _ z => z)
  · exact fm_tl F_u21 (fj_X10_closeShort_66 nn) (fun _ _ z => z)
set_option maxRecDepth 4000 in
theorem ff_X10_closeShort (nn : Nat) {a1 : Int} {a2 : Int} {h : ms_M} : Fm_ (fun c k => nw_F wl_X10_closeShort wf_X10_closeShort false false c k = true) h (qf_X10_closeShort nn a1 a2 h) (fun r => r) := by
  unfold qf_X10_closeShort
  have F_h : ∀ c k : Nat, (fun c k => nw_F wl_X10_closeShort wf_X10_closeShort false false c k = true) c k → h c k = h c k := fun _ _ _ => rfl
  refine fm_if ?_ ?_
  · exact fm_tl F_h (fj_X10_closeShort_16 nn) (fun _ _ z => z)
  · exact fm_tl F_h (fj_X10_closeShort_16 nn) (fun _ _ z => z)
set_option maxRecDepth 4000 in
theorem ff_X1_truth (nn : Nat) {a1 : Int} {a2 : Int} {h : ms_M} : Fm_ (fun c k => nw_F wl_X1_truth wf_X1_truth false false c k = true) h (qf_X1_truth nn a1 a2 h) (fun r => r) := by
  unfold qf_X1_truth
  have F_h : ∀ c k : Nat, (fun c k => nw_F wl_X1_truth wf_X1_truth false false c k = true) c k → h c k = h c k := fun _ _ _ => rfl
  refine fm_ca F_h (ff_X1_jump nn) (nw_sub rfl) ?_; intro u2 F_u2
  refine fm_ca F_u2 (ff_X1_push nn) (nw_sub rfl) ?_; intro u4 F_u4
  refine fm_ca F_u4 (ff_X1_op nn) (nw_sub rfl) ?_; intro u6 F_u6
  refine fm_ca F_u6 (ff_X1_jump nn) (nw_sub rfl) ?_; intro u8 F_u8
  refine fm_ca F_u8 (ff_X1_pop nn) (nw_sub rfl) ?_; intro u10 F_u10
  refine fm_ca F_u10 (ff_X1_aimHere nn) (nw_sub rfl) ?_; intro u12 F_u12
  refine fm_ca F_u12 (ff_X1_push nn) (nw_sub rfl) ?_; intro u14 F_u14
  refine fm_ca F_u14 (ff_X1_op nn) (nw_sub rfl) ?_; intro u16 F_u16
  refine fm_ca F_u16 (ff_X1_aimHere nn) (nw_sub rfl) ?_; intro u18 F_u18
  exact fm_ret F_u18
set_option maxRecDepth 4000 in
theorem fj_X10_closeSign_293 (nn : Nat) {h : ms_M} : Fm_ (fun c k => nw_F wl_X10_closeSign wf_X10_closeSign false false c k = true) h (qj_X10_closeSign_293 nn h) (fun r => r) := by
  unfold qj_X10_closeSign_293
  have F_h : ∀ c k : Nat, (fun c k => nw_F wl_X10_closeSign wf_X10_closeSign false false c k = true) c k → h c k = h c k := fun _ _ _ => rfl
  refine fm_rd ?_; intro v3
  refine fm_up F_h (nw_nf rfl) ?_; intro h4 F_h4
  refine fm_up F_h4 (nw_nf rfl) ?_; intro h5 F_h5
  exact fm_ret F_h5
set_option maxRecDepth 4000 in
theorem fj_X10_closeSign_251 (nn : Nat) {l1 : Int} {s0 : Int} {h : ms_M} : Fm_ (fun c k => nw_F wl_X10_closeSign wf_X10_closeSign false false c k = true) h (qj_X10_closeSign_251 nn l1 s0 h) (fun r => r) := by
  unfold qj_X10_closeSign_251
  have F_h : ∀ c k : Nat, (fun c k => nw_F wl_X10_closeSign wf_X10_closeSign false false c k = true) c k → h c k = h c k := fun _ _ _ => rfl
  refine fm_rd ?_; intro v8
  refine fm_ca F_h (ff_X10_wantType nn) (nw_sub rfl) ?_; intro u10 F_u10
  refine fm_pu ?_; intro u12
  refine fm_ca F_u10 (ff_X1_op nn) (nw_sub rfl) ?_; intro u14 F_u14
  refine fm_ca F_u14 (ff_X1_pop nn) (nw_sub rfl) ?_; intro u17 F_u17
  refine fm_ca F_u17 (ff_X1_push nn) (nw_sub rfl) ?_; intro u21 F_u21
  exact fm_tl F_u21 (fj_X10_closeSign_293 nn) (fun _ _ z => z)
set_option maxRecDepth 4000 in
theorem fj_X10_closeSign_250 (nn : Nat) {l1 : Int} {h : ms_M} : Fm_ (fun c k => nw_F wl_X10_closeSign wf_X10_closeSign false false c k = true) h (qj_X10_closeSign_250 nn l1 h) (fun r => r) := by
  unfold qj_X10_closeSign_250
  have F_h : ∀ c k : Nat, (fun c k => nw_F wl_X10_closeSign wf_X10_closeSign false false c k = true) c k → h c k = h c k := fun _ _ _ => rfl
  exact fm_tl F_h (fj_X10_closeSign_251 nn) (fun _ _ z => z)
set_option maxRecDepth 4000 in
theorem fj_X10_closeSign_246 (nn : Nat) {l1 : Int} {h : ms_M} : Fm_ (fun c k => nw_F wl_X10_closeSign wf_X10_closeSign false false c k = true) h (qj_X10_closeSign_246 nn l1 h) (fun r => r) := by
  unfold qj_X10_closeSign_246
  have F_h : ∀ c k : Nat, (fun c k => nw_F wl_X10_closeSign wf_X10_closeSign false false c k = true) c k → h c k = h c k := fun _ _ _ => rfl
  exact fm_tl F_h (fj_X10_closeSign_251 nn) (fun _ _ z => z)
set_option maxRecDepth 4000 in
theorem fj_X10_closeSign_212 (nn : Nat) {l1 : Int} {l2 : Int} {s0 : Int} {h : ms_M} : Fm_ (fun c k => nw_F wl_X10_closeSign wf_X10_closeSign false false c k = true) h (qj_X10_closeSign_212 nn l1 l2 s0 h) (fun r => r) := by
  unfold qj_X10_closeSign_212
  have F_h : ∀ c k : Nat, (fun c k => nw_F wl_X10_closeSign wf_X10_closeSign false false c k = true) c k → h c k = h c k := fun _ _ _ => rfl
  refine fm_if ?_ ?_
  · exact fm_tl F_h (fj_X10_closeSign_250 nn) (fun _ _ z => z)
  · refine fm_if ?_ ?_
    · exact fm_tl F_h (fj_X10_closeSign_246 nn) (fun _ _ z => z)
    · refine fm_if ?_ ?_
      · exact fm_tl F_h (fj_X10_closeSign_250 nn) (fun _ _ z => z)
      · refine fm_if ?_ ?_
        · exact fm_tl F_h (fj_X10_closeSign_250 nn) (fun _ _ z => z)
        · exact fm_tl F_h (fj_X10_closeSign_246 nn) (fun _ _ z => z)
set_option maxRecDepth 4000 in
theorem fj_X10_closeSign_207 (nn : Nat) {l1 : Int} {l2 : Int} {h : ms_M} : Fm_ (fun c k => nw_F wl_X10_closeSign wf_X10_closeSign false false c k = true) h (qj_X10_closeSign_207 nn l1 l2 h) (fun r => r) := by
  unfold qj_X10_closeSign_207
  have F_h : ∀ c k : Nat, (fun c k => nw_F wl_X10_closeSign wf_X10_closeSign false false c k = true) c k → h c k = h c k := fun _ _ _ => rfl
  exact fm_tl F_h (fj_X10_closeSign_212 nn) (fun _ _ z => z)
set_option maxRecDepth 4000 in
theorem fj_X10_closeSign_154 (nn : Nat) {l1 : Int} {s0 : Int} {h : ms_M} : Fm_ (fun c k => nw_F wl_X10_closeSign wf_X10_closeSign false false c k = true) h (qj_X10_closeSign_154 nn l1 s0 h) (fun r => r) := by
  unfold qj_X10_closeSign_154
  have F_h : ∀ c k : Nat, (fun c k => nw_F wl_X10_closeSign wf_X10_closeSign false false c k = true) c k → h c k = h c k := fun _ _ _ => rfl
  refine fm_rd ?_; intro v31
  refine fm_ca F_h (ff_X10_wantType nn) (nw_sub rfl) ?_; intro u33 F_u33
  refine fm_pu ?_; intro u35
  refine fm_ca F_u33 (ff_X1_truth nn) (nw_sub rfl) ?_; intro u37 F_u37
  refine fm_up F_u37 (nw_nf rfl) ?_; intro h38 F_h38
  exact fm_tl F_h38 (fj_X10_closeSign_293 nn) (fun _ _ z => z)
set_option maxRecDepth 4000 in
theorem fj_X10_closeSign_153 (nn : Nat) {l1 : Int} {h : ms_M} : Fm_ (fun c k => nw_F wl_X10_closeSign wf_X10_closeSign false false c k = true) h (qj_X10_closeSign_153 nn l1 h) (fun r => r) := by
  unfold qj_X10_closeSign_153
  have F_h : ∀ c k : Nat, (fun c k => nw_F wl_X10_closeSign wf_X10_closeSign false false c k = true) c k → h c k = h c k := fun _ _ _ => rfl
  exact fm_tl F_h (fj_X10_closeSign_154 nn) (fun _ _ z => z)
set_option maxRecDepth 4000 in
theorem fj_X10_closeSign_71 (nn : Nat) {l1 : Int} {l2 : Int} {h : ms_M} : Fm_ (fun c k => nw_F wl_X10_closeSign wf_X10_closeSign false false c k = true) h (qj_X10_closeSign_71 nn l1 l2 h) (fun r => r) := by
  unfold qj_X10_closeSign_71
  have F_h : ∀ c k : Nat, (fun c k => nw_F wl_X10_closeSign wf_X10_closeSign false false c k = true) c k → h c k = h c k := fun _ _ _ => rfl
  refine fm_pu ?_; intro u41
  refine fm_rd ?_; intro v44
  refine fm_ca F_h (ff_X10_wantType nn) (nw_sub rfl) ?_; intro u46 F_u46
  refine fm_pu ?_; intro u49
  refine fm_pu ?_; intro u50
  refine fm_ca F_u46 (ff_X1_truth nn) (nw_sub rfl) ?_; intro u52 F_u52
  refine fm_up F_u52 (nw_nf rfl) ?_; intro h53 F_h53
  exact fm_tl F_h53 (fj_X10_closeSign_293 nn) (fun _ _ z => z)
