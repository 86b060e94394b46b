abbrev cArrays_fill : ByteArray := prog_23_method_103_code
def yArrays_fill : MethodName := ⟨R_Arrays, "fill", "([II)V"⟩
abbrev wArrays_fill : List Cond := .code yArrays_fill cArrays_fill 4 none :: GW
theorem kArrays_fill : Cond.code yArrays_fill cArrays_fill 4 none ∈ GW := gwm 54 (by decide +kernel) (by decide +kernel)
theorem pArrays_fill : yArrays_fill.cls ≠ "java/lang/invoke/MethodHandle" ∧ yArrays_fill.cls ≠ "java/lang/invoke/VarHandle" ∧ (parseMethodDescriptor yArrays_fill.desc).map (fun d => d.parameters.length) = some 2 := by decide +kernel
theorem qArrays_fill : Cond.static yArrays_fill ∈ GW := gwm 53 (by decide +kernel) (by decide +kernel)
theorem iArrays_fill : Cond.initialized yArrays_fill.cls ∈ GW := gwm 5 (by decide +kernel) (by decide +kernel)
abbrev cMath_floorMod_II : ByteArray := prog_18_method_50_code
def yMath_floorMod_II : MethodName := ⟨R_Math, "floorMod", "(II)I"⟩
abbrev wMath_floorMod_II : List Cond := .code yMath_floorMod_II cMath_floorMod_II 3 (some .int) :: GW
theorem kMath_floorMod_II : Cond.code yMath_floorMod_II cMath_floorMod_II 3 (some .int) ∈ GW := gwm 32 (by decide +kernel) (by decide +kernel)
theorem pMath_floorMod_II : yMath_floorMod_II.cls ≠ "java/lang/invoke/MethodHandle" ∧ yMath_floorMod_II.cls ≠ "java/lang/invoke/VarHandle" ∧ (parseMethodDescriptor yMath_floorMod_II.desc).map (fun d => d.parameters.length) = some 2 := by decide +kernel
theorem qMath_floorMod_II : Cond.static yMath_floorMod_II ∈ GW := gwm 31 (by decide +kernel) (by decide +kernel)
theorem iMath_floorMod_II : Cond.initialized yMath_floorMod_II.cls ∈ GW := gwm 2 (by decide +kernel) (by decide +kernel)
abbrev cMath_floorMod_JJ : ByteArray := prog_18_method_52_code
def yMath_floorMod_JJ : MethodName := ⟨R_Math, "floorMod", "(JJ)J"⟩
abbrev wMath_floorMod_JJ : List Cond := .code yMath_floorMod_JJ cMath_floorMod_JJ 6 (some .long) :: GW
theorem kMath_floorMod_JJ : Cond.code yMath_floorMod_JJ cMath_floorMod_JJ 6 (some .long) ∈ GW := gwm 36 (by decide +kernel) (by decide +kernel)
theorem pMath_floorMod_JJ : yMath_floorMod_JJ.cls ≠ "java/lang/invoke/MethodHandle" ∧ yMath_floorMod_JJ.cls ≠ "java/lang/invoke/VarHandle" ∧ (parseMethodDescriptor yMath_floorMod_JJ.desc).map (fun d => d.parameters.length) = some 2 := by decide +kernel
theorem qMath_floorMod_JJ : Cond.static yMath_floorMod_JJ ∈ GW := gwm 35 (by decide +kernel) (by decide +kernel)
theorem iMath_floorMod_JJ : Cond.initialized yMath_floorMod_JJ.cls ∈ GW := gwm 2 (by decide +kernel) (by decide +kernel)
abbrev cPK_cells : ByteArray := prog_1_method_19_code
def yPK_cells : MethodName := ⟨R_PK, "cells", "(II)[I"⟩
abbrev wPK_cells : List Cond := .code yPK_cells cPK_cells 3 (some (.array .int)) :: GW
theorem kPK_cells : Cond.code yPK_cells cPK_cells 3 (some (.array .int)) ∈ GW := gwm 51 (by decide +kernel) (by decide +kernel)
theorem pPK_cells : yPK_cells.cls ≠ "java/lang/invoke/MethodHandle" ∧ yPK_cells.cls ≠ "java/lang/invoke/VarHandle" ∧ (parseMethodDescriptor yPK_cells.desc).map (fun d => d.parameters.length) = some 2 := by decide +kernel
theorem qPK_cells : Cond.static yPK_cells ∈ GW := gwm 50 (by decide +kernel) (by decide +kernel)
theorem iPK_cells : Cond.initialized yPK_cells.cls ∈ GW := gwm 1 (by decide +kernel) (by decide +kernel)
abbrev cKind_init : ByteArray := prog_6_method_1_code
def yKind_init : MethodName := ⟨R_Kind, "<init>", "(I)V"⟩
abbrev wKind_init : List Cond := .code yKind_init cKind_init 2 none :: GW
theorem kKind_init : Cond.code yKind_init cKind_init 2 none ∈ GW := gwm 47 (by decide +kernel) (by decide +kernel)
theorem pKind_init : yKind_init.cls ≠ "java/lang/invoke/MethodHandle" ∧ yKind_init.cls ≠ "java/lang/invoke/VarHandle" ∧ (parseMethodDescriptor yKind_init.desc).map (fun d => d.parameters.length) = some 1 := by decide +kernel
theorem qKind_init : Cond.instanceMethod yKind_init ∈ GW := gwm 46 (by decide +kernel) (by decide +kernel)
theorem iKind_init : Cond.initialized yKind_init.cls ∈ GW := gwm 3 (by decide +kernel) (by decide +kernel)
abbrev cAlways_init : ByteArray := prog_2_method_1_code
def yAlways_init : MethodName := ⟨R_Always, "<init>", "(I)V"⟩
abbrev wAlways_init : List Cond := .code yAlways_init cAlways_init 2 none :: GW
theorem kAlways_init : Cond.code yAlways_init cAlways_init 2 none ∈ GW := gwm 235 (by decide +kernel) (by decide +kernel)
theorem pAlways_init : yAlways_init.cls ≠ "java/lang/invoke/MethodHandle" ∧ yAlways_init.cls ≠ "java/lang/invoke/VarHandle" ∧ (parseMethodDescriptor yAlways_init.desc).map (fun d => d.parameters.length) = some 1 := by decide +kernel
theorem qAlways_init : Cond.instanceMethod yAlways_init ∈ GW := gwm 234 (by decide +kernel) (by decide +kernel)
theorem iAlways_init : Cond.initialized yAlways_init.cls ∈ GW := gwm 13 (by decide +kernel) (by decide +kernel)
abbrev cLast_init : ByteArray := prog_7_method_1_code
def yLast_init : MethodName := ⟨R_Last, "<init>", "(I)V"⟩
abbrev wLast_init : List Cond := .code yLast_init cLast_init 2 none :: GW
theorem kLast_init : Cond.code yLast_init cLast_init 2 none ∈ GW := gwm 44 (by decide +kernel) (by decide +kernel)
theorem pLast_init : yLast_init.cls ≠ "java/lang/invoke/MethodHandle" ∧ yLast_init.cls ≠ "java/lang/invoke/VarHandle" ∧ (parseMethodDescriptor yLast_init.desc).map (fun d => d.parameters.length) = some 1 := by decide +kernel
theorem qLast_init : Cond.instanceMethod yLast_init ∈ GW := gwm 43 (by decide +kernel) (by decide +kernel)
theorem iLast_init : Cond.initialized yLast_init.cls ∈ GW := gwm 4 (by decide +kernel) (by decide +kernel)
abbrev cCounters_init : ByteArray := prog_5_method_1_code
def yCounters_init : MethodName := ⟨R_Counters, "<init>", "(IZ)V"⟩
abbrev wCounters_init : List Cond := .code yCounters_init cCounters_init 3 none :: GW
theorem kCounters_init : Cond.code yCounters_init cCounters_init 3 none ∈ GW := gwm 99 (by decide +kernel) (by decide +kernel)
theorem pCounters_init : yCounters_init.cls ≠ "java/lang/invoke/MethodHandle" ∧ yCounters_init.cls ≠ "java/lang/invoke/VarHandle" ∧ (parseMethodDescriptor yCounters_init.desc).map (fun d => d.parameters.length) = some 2 := by decide +kernel
theorem qCounters_init : Cond.instanceMethod yCounters_init ∈ GW := gwm 98 (by decide +kernel) (by decide +kernel)
theorem iCounters_init : Cond.initialized yCounters_init.cls ∈ GW := gwm 6 (by decide +kernel) (by decide +kernel)
abbrev cOwn_init : ByteArray := prog_9_method_1_code
def yOwn_init : MethodName := ⟨R_Own, "<init>", "(I)V"⟩
abbrev wOwn_init : List Cond := .code yOwn_init cOwn_init 2 none :: GW
theorem kOwn_init : Cond.code yOwn_init cOwn_init 2 none ∈ GW := gwm 116 (by decide +kernel) (by decide +kernel)
theorem pOwn_init : yOwn_init.cls ≠ "java/lang/invoke/MethodHandle" ∧ yOwn_init.cls ≠ "java/lang/invoke/VarHandle" ∧ (parseMethodDescriptor yOwn_init.desc).map (fun d => d.parameters.length) = some 1 := by decide +kernel
theorem qOwn_init : Cond.instanceMethod yOwn_init ∈ GW := gwm 115 (by decide +kernel) (by decide +kernel)
theorem iOwn_init : Cond.initialized yOwn_init.cls ∈ GW := gwm 7 (by decide +kernel) (by decide +kernel)
abbrev cChooser_init : ByteArray := prog_3_method_1_code
def yChooser_init : MethodName := ⟨R_Chooser, "<init>", "(I)V"⟩
abbrev wChooser_init : List Cond := .code yChooser_init cChooser_init 2 none :: GW
theorem kChooser_init : Cond.code yChooser_init cChooser_init 2 none ∈ GW := gwm 133 (by decide +kernel) (by decide +kernel)
theorem pChooser_init : yChooser_init.cls ≠ "java/lang/invoke/MethodHandle" ∧ yChooser_init.cls ≠ "java/lang/invoke/VarHandle" ∧ (parseMethodDescriptor yChooser_init.desc).map (fun d => d.parameters.length) = some 1 := by decide +kernel
theorem qChooser_init : Cond.instanceMethod yChooser_init ∈ GW := gwm 132 (by decide +kernel) (by decide +kernel)
theorem iChooser_init : Cond.initialized yChooser_init.cls ∈ GW := gwm 8 (by decide +kernel) (by decide +kernel)
abbrev cTagged_init : ByteArray := prog_11_method_1_code
def yTagged_init : MethodName := ⟨R_Tagged, "<init>", "(I)V"⟩
abbrev wTagged_init : List Cond := .code yTagged_init cTagged_init 2 none :: GW
theorem kTagged_init : Cond.code yTagged_init cTagged_init 2 none ∈ GW := gwm 155 (by decide +kernel) (by decide +kernel)
theorem pTagged_init : yTagged_init.cls ≠ "java/lang/invoke/MethodHandle" ∧ yTagged_init.cls ≠ "java/lang/invoke/VarHandle" ∧ (parseMethodDescriptor yTagged_init.desc).map (fun d => d.parameters.length) = some 1 := by decide +kernel
theorem qTagged_init : Cond.instanceMethod yTagged_init ∈ GW := gwm 154 (by decide +kernel) (by decide +kernel)
theorem iTagged_init : Cond.initialized yTagged_init.cls ∈ GW := gwm 9 (by decide +kernel) (by decide +kernel)
abbrev cSums_init : ByteArray := prog_10_method_1_code
def ySums_init : MethodName := ⟨R_Sums, "<init>", "(I)V"⟩
abbrev wSums_init : List Cond := .code ySums_init cSums_init 2 none :: GW
theorem kSums_init : Cond.code ySums_init cSums_init 2 none ∈ GW := gwm 180 (by decide +kernel) (by decide +kernel)
theorem pSums_init : ySums_init.cls ≠ "java/lang/invoke/MethodHandle" ∧ ySums_init.cls ≠ "java/lang/invoke/VarHandle" ∧ (parseMethodDescriptor ySums_init.desc).map (fun d => d.parameters.length) = some 1 := by decide +kernel
theorem qSums_init : Cond.instanceMethod ySums_init ∈ GW := gwm 179 (by decide +kernel) (by decide +kernel)
theorem iSums_init : Cond.initialized ySums_init.cls ∈ GW := gwm 10 (by decide +kernel) (by decide +kernel)
abbrev cLoops_init : ByteArray := prog_8_method_1_code
def yLoops_init : MethodName := ⟨R_Loops, "<init>", "(I)V"⟩
abbrev wLoops_init : List Cond := .code yLoops_init cLoops_init 2 none :: GW
theorem kLoops_init : Cond.code yLoops_init cLoops_init 2 none ∈ GW := gwm 194 (by decide +kernel) (by decide +kernel)
theorem pLoops_init : yLoops_init.cls ≠ "java/lang/invoke/MethodHandle" ∧ yLoops_init.cls ≠ "java/lang/invoke/VarHandle" ∧ (parseMethodDescriptor yLoops_init.desc).map (fun d => d.parameters.length) = some 1 := by decide +kernel
theorem qLoops_init : Cond.instanceMethod yLoops_init ∈ GW := gwm 193 (by decide +kernel) (by decide +kernel)
theorem iLoops_init : Cond.initialized yLoops_init.cls ∈ GW := gwm 11 (by decide +kernel) (by decide +kernel)
abbrev cCoin_init : ByteArray := prog_4_method_1_code
def yCoin_init : MethodName := ⟨R_Coin, "<init>", "(II)V"⟩
abbrev wCoin_init : List Cond := .code yCoin_init cCoin_init 3 none :: GW
theorem kCoin_init : Cond.code yCoin_init cCoin_init 3 none ∈ GW := gwm 222 (by decide +kernel) (by decide +kernel)
theorem pCoin_init : yCoin_init.cls ≠ "java/lang/invoke/MethodHandle" ∧ yCoin_init.cls ≠ "java/lang/invoke/VarHandle" ∧ (parseMethodDescriptor yCoin_init.desc).map (fun d => d.parameters.length) = some 2 := by decide +kernel
theorem qCoin_init : Cond.instanceMethod yCoin_init ∈ GW := gwm 221 (by decide +kernel) (by decide +kernel)
theorem iCoin_init : Cond.initialized yCoin_init.cls ∈ GW := gwm 12 (by decide +kernel) (by decide +kernel)
abbrev cWaiting_init : ByteArray := prog_12_method_1_code
def yWaiting_init : MethodName := ⟨R_Waiting, "<init>", "()V"⟩
abbrev wWaiting_init : List Cond := .code yWaiting_init cWaiting_init 1 none :: GW
theorem kWaiting_init : Cond.code yWaiting_init cWaiting_init 1 none ∈ GW := gwm 245 (by decide +kernel) (by decide +kernel)
theorem pWaiting_init : yWaiting_init.cls ≠ "java/lang/invoke/MethodHandle" ∧ yWaiting_init.cls ≠ "java/lang/invoke/VarHandle" ∧ (parseMethodDescriptor yWaiting_init.desc).map (fun d => d.parameters.length) = some 0 := by decide +kernel
theorem qWaiting_init : Cond.instanceMethod yWaiting_init ∈ GW := gwm 244 (by decide +kernel) (by decide +kernel)
theorem iWaiting_init : Cond.initialized yWaiting_init.cls ∈ GW := gwm 14 (by decide +kernel) (by decide +kernel)
theorem dArrays_fill_0 : decode cArrays_fill 0 = .ok (.iconst 0, 1) := by decide +kernel
theorem dArrays_fill_1 : decode cArrays_fill 1 = .ok (.istore_n 2, 1) := by decide +kernel
theorem dArrays_fill_2 : decode cArrays_fill 2 = .ok (.aload_n 0, 1) := by decide +kernel
theorem dArrays_fill_3 : decode cArrays_fill 3 = .ok (.arraylength, 1) := by decide +kernel
theorem dArrays_fill_4 : decode cArrays_fill 4 = .ok (.istore_n 3, 1) := by decide +kernel
theorem dArrays_fill_5 : decode cArrays_fill 5 = .ok (.iload_n 2, 1) := by decide +kernel
theorem dArrays_fill_6 : decode cArrays_fill 6 = .ok (.iload_n 3, 1) := by decide +kernel
theorem dArrays_fill_7 : decode cArrays_fill 7 = .ok (.if_icmp .ge 13, 3) := by decide +kernel
theorem dArrays_fill_10 : decode cArrays_fill 10 = .ok (.aload_n 0, 1) := by decide +kernel
theorem dArrays_fill_11 : decode cArrays_fill 11 = .ok (.iload_n 2, 1) := by decide +kernel
theorem dArrays_fill_12 : decode cArrays_fill 12 = .ok (.iload_n 1, 1) := by decide +kernel
theorem dArrays_fill_13 : decode cArrays_fill 13 = .ok (.iastore, 1) := by decide +kernel
theorem dArrays_fill_14 : decode cArrays_fill 14 = .ok (.iinc 2 1, 3) := by decide +kernel
theorem dArrays_fill_17 : decode cArrays_fill 17 = .ok (.goto (-12), 3) := by decide +kernel
theorem dArrays_fill_20 : decode cArrays_fill 20 = .ok (.return_, 1) := by decide +kernel
theorem dMath_floorMod_II_0 : decode cMath_floorMod_II 0 = .ok (.iload_n 0, 1) := by decide +kernel
theorem dMath_floorMod_II_1 : decode cMath_floorMod_II 1 = .ok (.iload_n 1, 1) := by decide +kernel
theorem dMath_floorMod_II_2 : decode cMath_floorMod_II 2 = .ok (.irem, 1) := by decide +kernel
theorem dMath_floorMod_II_3 : decode cMath_floorMod_II 3 = .ok (.istore_n 2, 1) := by decide +kernel
theorem dMath_floorMod_II_4 : decode cMath_floorMod_II 4 = .ok (.iload_n 0, 1) := by decide +kernel
theorem dMath_floorMod_II_5 : decode cMath_floorMod_II 5 = .ok (.iload_n 1, 1) := by decide +kernel
theorem dMath_floorMod_II_6 : decode cMath_floorMod_II 6 = .ok (.ixor, 1) := by decide +kernel
theorem dMath_floorMod_II_7 : decode cMath_floorMod_II 7 = .ok (.ifCond .ge 11, 3) := by decide +kernel
theorem dMath_floorMod_II_10 : decode cMath_floorMod_II 10 = .ok (.iload_n 2, 1) := by decide +kernel
theorem dMath_floorMod_II_11 : decode cMath_floorMod_II 11 = .ok (.ifCond .eq 7, 3) := by decide +kernel
theorem dMath_floorMod_II_14 : decode cMath_floorMod_II 14 = .ok (.iload_n 2, 1) := by decide +kernel
theorem dMath_floorMod_II_15 : decode cMath_floorMod_II 15 = .ok (.iload_n 1, 1) := by decide +kernel
theorem dMath_floorMod_II_16 : decode cMath_floorMod_II 16 = .ok (.iadd, 1) := by decide +kernel
theorem dMath_floorMod_II_17 : decode cMath_floorMod_II 17 = .ok (.ireturn, 1) := by decide +kernel
theorem dMath_floorMod_II_18 : decode cMath_floorMod_II 18 = .ok (.iload_n 2, 1) := by decide +kernel
theorem dMath_floorMod_II_19 : decode cMath_floorMod_II 19 = .ok (.ireturn, 1) := by decide +kernel
theorem dMath_floorMod_JJ_0 : decode cMath_floorMod_JJ 0 = .ok (.lload_n 0, 1) := by decide +kernel
theorem dMath_floorMod_JJ_1 : decode cMath_floorMod_JJ 1 = .ok (.lload_n 2, 1) := by decide +kernel
theorem dMath_floorMod_JJ_2 : decode cMath_floorMod_JJ 2 = .ok (.lrem, 1) := by decide +kernel
theorem dMath_floorMod_JJ_3 : decode cMath_floorMod_JJ 3 = .ok (.lstore 4, 2) := by decide +kernel
theorem dMath_floorMod_JJ_5 : decode cMath_floorMod_JJ 5 = .ok (.lload_n 0, 1) := by decide +kernel
theorem dMath_floorMod_JJ_6 : decode cMath_floorMod_JJ 6 = .ok (.lload_n 2, 1) := by decide +kernel
theorem dMath_floorMod_JJ_7 : decode cMath_floorMod_JJ 7 = .ok (.lxor, 1) := by decide +kernel
theorem dMath_floorMod_JJ_8 : decode cMath_floorMod_JJ 8 = .ok (.lconst 0, 1) := by decide +kernel
theorem dMath_floorMod_JJ_9 : decode cMath_floorMod_JJ 9 = .ok (.lcmp, 1) := by decide +kernel
theorem dMath_floorMod_JJ_10 : decode cMath_floorMod_JJ 10 = .ok (.ifCond .ge 15, 3) := by decide +kernel
theorem dMath_floorMod_JJ_13 : decode cMath_floorMod_JJ 13 = .ok (.lload 4, 2) := by decide +kernel
theorem dMath_floorMod_JJ_15 : decode cMath_floorMod_JJ 15 = .ok (.lconst 0, 1) := by decide +kernel
theorem dMath_floorMod_JJ_16 : decode cMath_floorMod_JJ 16 = .ok (.lcmp, 1) := by decide +kernel
theorem dMath_floorMod_JJ_17 : decode cMath_floorMod_JJ 17 = .ok (.ifCond .eq 8, 3) := by decide +kernel
theorem dMath_floorMod_JJ_20 : decode cMath_floorMod_JJ 20 = .ok (.lload 4, 2) := by decide +kernel
theorem dMath_floorMod_JJ_22 : decode cMath_floorMod_JJ 22 = .ok (.lload_n 2, 1) := by decide +kernel
theorem dMath_floorMod_JJ_23 : decode cMath_floorMod_JJ 23 = .ok (.ladd, 1) := by decide +kernel
theorem dMath_floorMod_JJ_24 : decode cMath_floorMod_JJ 24 = .ok (.lreturn, 1) := by decide +kernel
theorem dMath_floorMod_JJ_25 : decode cMath_floorMod_JJ 25 = .ok (.lload 4, 2) := by decide +kernel
theorem dMath_floorMod_JJ_27 : decode cMath_floorMod_JJ 27 = .ok (.lreturn, 1) := by decide +kernel
theorem dPK_cells_0 : decode cPK_cells 0 = .ok (.iload_n 0, 1) := by decide +kernel
theorem dPK_cells_1 : decode cPK_cells 1 = .ok (.ifCond .le 7, 3) := by decide +kernel
theorem dPK_cells_4 : decode cPK_cells 4 = .ok (.iload_n 0, 1) := by decide +kernel
theorem dPK_cells_5 : decode cPK_cells 5 = .ok (.goto 4, 3) := by decide +kernel
theorem dPK_cells_8 : decode cPK_cells 8 = .ok (.iconst 0, 1) := by decide +kernel
theorem dPK_cells_9 : decode cPK_cells 9 = .ok (.newarray .int, 2) := by decide +kernel
theorem dPK_cells_11 : decode cPK_cells 11 = .ok (.astore_n 2, 1) := by decide +kernel
theorem dPK_cells_12 : decode cPK_cells 12 = .ok (.aload_n 2, 1) := by decide +kernel
theorem dPK_cells_13 : decode cPK_cells 13 = .ok (.iload_n 1, 1) := by decide +kernel
theorem dPK_cells_14 : decode cPK_cells 14 = .ok (.invokestatic 187, 3) := by decide +kernel
theorem dPK_cells_17 : decode cPK_cells 17 = .ok (.aload_n 2, 1) := by decide +kernel
theorem dPK_cells_18 : decode cPK_cells 18 = .ok (.areturn, 1) := by decide +kernel
theorem dKind_init_0 : decode cKind_init 0 = .ok (.aload_n 0, 1) := by decide +kernel
theorem dKind_init_1 : decode cKind_init 1 = .ok (.invokespecial 1, 3) := by decide +kernel
theorem dKind_init_4 : decode cKind_init 4 = .ok (.aload_n 0, 1) := by decide +kernel
theorem dKind_init_5 : decode cKind_init 5 = .ok (.iload_n 1, 1) := by decide +kernel
theorem dKind_init_6 : decode cKind_init 6 = .ok (.putfield 7, 3) := by decide +kernel
theorem dKind_init_9 : decode cKind_init 9 = .ok (.aload_n 0, 1) := by decide +kernel
theorem dKind_init_10 : decode cKind_init 10 = .ok (.iconst 1, 1) := by decide +kernel
theorem dKind_init_11 : decode cKind_init 11 = .ok (.iload_n 1, 1) := by decide +kernel
theorem dKind_init_12 : decode cKind_init 12 = .ok (.ishl, 1) := by decide +kernel
theorem dKind_init_13 : decode cKind_init 13 = .ok (.putfield 13, 3) := by decide +kernel
theorem dKind_init_16 : decode cKind_init 16 = .ok (.aload_n 0, 1) := by decide +kernel
theorem dKind_init_17 : decode cKind_init 17 = .ok (.aload_n 0, 1) := by decide +kernel
theorem dKind_init_18 : decode cKind_init 18 = .ok (.getfield 13, 3) := by decide +kernel
theorem dKind_init_21 : decode cKind_init 21 = .ok (.iconst 1, 1) := by decide +kernel
theorem dKind_init_22 : decode cKind_init 22 = .ok (.isub, 1) := by decide +kernel
theorem dKind_init_23 : decode cKind_init 23 = .ok (.putfield 16, 3) := by decide +kernel
theorem dKind_init_26 : decode cKind_init 26 = .ok (.return_, 1) := by decide +kernel
theorem dAlways_init_0 : decode cAlways_init 0 = .ok (.aload_n 0, 1) := by decide +kernel
theorem dAlways_init_1 : decode cAlways_init 1 = .ok (.iload_n 1, 1) := by decide +kernel
theorem dAlways_init_2 : decode cAlways_init 2 = .ok (.invokespecial 1, 3) := by decide +kernel
theorem dAlways_init_5 : decode cAlways_init 5 = .ok (.return_, 1) := by decide +kernel
theorem dLast_init_0 : decode cLast_init 0 = .ok (.aload_n 0, 1) := by decide +kernel
theorem dLast_init_1 : decode cLast_init 1 = .ok (.iload_n 1, 1) := by decide +kernel
theorem dLast_init_2 : decode cLast_init 2 = .ok (.invokespecial 1, 3) := by decide +kernel
theorem dLast_init_5 : decode cLast_init 5 = .ok (.aload_n 0, 1) := by decide +kernel
theorem dLast_init_6 : decode cLast_init 6 = .ok (.aload_n 0, 1) := by decide +kernel
theorem dLast_init_7 : decode cLast_init 7 = .ok (.getfield 7, 3) := by decide +kernel
theorem dLast_init_10 : decode cLast_init 10 = .ok (.iconst 0, 1) := by decide +kernel
theorem dLast_init_11 : decode cLast_init 11 = .ok (.invokestatic 13, 3) := by decide +kernel
theorem dLast_init_14 : decode cLast_init 14 = .ok (.putfield 19, 3) := by decide +kernel
theorem dLast_init_17 : decode cLast_init 17 = .ok (.return_, 1) := by decide +kernel
theorem dCounters_init_0 : decode cCounters_init 0 = .ok (.aload_n 0, 1) := by decide +kernel
theorem dCounters_init_1 : decode cCounters_init 1 = .ok (.iload_n 1, 1) := by decide +kernel
theorem dCounters_init_2 : decode cCounters_init 2 = .ok (.invokespecial 3, 3) := by decide +kernel
theorem dCounters_init_5 : decode cCounters_init 5 = .ok (.aload_n 0, 1) := by decide +kernel
theorem dCounters_init_6 : decode cCounters_init 6 = .ok (.iload_n 2, 1) := by decide +kernel
theorem dCounters_init_7 : decode cCounters_init 7 = .ok (.putfield 9, 3) := by decide +kernel
theorem dCounters_init_10 : decode cCounters_init 10 = .ok (.aload_n 0, 1) := by decide +kernel
theorem dCounters_init_11 : decode cCounters_init 11 = .ok (.aload_n 0, 1) := by decide +kernel
theorem dCounters_init_12 : decode cCounters_init 12 = .ok (.getfield 15, 3) := by decide +kernel
theorem dCounters_init_15 : decode cCounters_init 15 = .ok (.iconst 1, 1) := by decide +kernel
theorem dCounters_init_16 : decode cCounters_init 16 = .ok (.invokestatic 19, 3) := by decide +kernel
theorem dCounters_init_19 : decode cCounters_init 19 = .ok (.putfield 23, 3) := by decide +kernel
theorem dCounters_init_22 : decode cCounters_init 22 = .ok (.return_, 1) := by decide +kernel
theorem dOwn_init_0 : decode cOwn_init 0 = .ok (.aload_n 0, 1) := by decide +kernel
theorem dOwn_init_1 : decode cOwn_init 1 = .ok (.iload_n 1, 1) := by decide +kernel
theorem dOwn_init_2 : decode cOwn_init 2 = .ok (.invokespecial 3, 3) := by decide +kernel
theorem dOwn_init_5 : decode cOwn_init 5 = .ok (.aload_n 0, 1) := by decide +kernel
theorem dOwn_init_6 : decode cOwn_init 6 = .ok (.aload_n 0, 1) := by decide +kernel
theorem dOwn_init_7 : decode cOwn_init 7 = .ok (.getfield 9, 3) := by decide +kernel
theorem dOwn_init_10 : decode cOwn_init 10 = .ok (.iconst 0, 1) := by decide +kernel
theorem dOwn_init_11 : decode cOwn_init 11 = .ok (.invokestatic 15, 3) := by decide +kernel
theorem dOwn_init_14 : decode cOwn_init 14 = .ok (.putfield 19, 3) := by decide +kernel
theorem dOwn_init_17 : decode cOwn_init 17 = .ok (.aload_n 0, 1) := by decide +kernel
theorem dOwn_init_18 : decode cOwn_init 18 = .ok (.aload_n 0, 1) := by decide +kernel
theorem dOwn_init_19 : decode cOwn_init 19 = .ok (.getfield 9, 3) := by decide +kernel
theorem dOwn_init_22 : decode cOwn_init 22 = .ok (.iconst 1, 1) := by decide +kernel
theorem dOwn_init_23 : decode cOwn_init 23 = .ok (.invokestatic 15, 3) := by decide +kernel
theorem dOwn_init_26 : decode cOwn_init 26 = .ok (.putfield 23, 3) := by decide +kernel
theorem dOwn_init_29 : decode cOwn_init 29 = .ok (.return_, 1) := by decide +kernel
theorem dChooser_init_0 : decode cChooser_init 0 = .ok (.aload_n 0, 1) := by decide +kernel
theorem dChooser_init_1 : decode cChooser_init 1 = .ok (.iload_n 1, 1) := by decide +kernel
theorem dChooser_init_2 : decode cChooser_init 2 = .ok (.invokespecial 3, 3) := by decide +kernel
theorem dChooser_init_5 : decode cChooser_init 5 = .ok (.aload_n 0, 1) := by decide +kernel
theorem dChooser_init_6 : decode cChooser_init 6 = .ok (.new 9, 3) := by decide +kernel
theorem dChooser_init_9 : decode cChooser_init 9 = .ok (.dup, 1) := by decide +kernel
theorem dChooser_init_10 : decode cChooser_init 10 = .ok (.iload_n 1, 1) := by decide +kernel
theorem dChooser_init_11 : decode cChooser_init 11 = .ok (.iconst 0, 1) := by decide +kernel
theorem dChooser_init_12 : decode cChooser_init 12 = .ok (.invokespecial 11, 3) := by decide +kernel
theorem dChooser_init_15 : decode cChooser_init 15 = .ok (.putfield 14, 3) := by decide +kernel
theorem dChooser_init_18 : decode cChooser_init 18 = .ok (.aload_n 0, 1) := by decide +kernel
theorem dChooser_init_19 : decode cChooser_init 19 = .ok (.new 9, 3) := by decide +kernel
theorem dChooser_init_22 : decode cChooser_init 22 = .ok (.dup, 1) := by decide +kernel
theorem dChooser_init_23 : decode cChooser_init 23 = .ok (.iload_n 1, 1) := by decide +kernel
theorem dChooser_init_24 : decode cChooser_init 24 = .ok (.iconst 1, 1) := by decide +kernel
theorem dChooser_init_25 : decode cChooser_init 25 = .ok (.invokespecial 11, 3) := by decide +kernel
theorem dChooser_init_28 : decode cChooser_init 28 = .ok (.putfield 20, 3) := by decide +kernel
theorem dChooser_init_31 : decode cChooser_init 31 = .ok (.aload_n 0, 1) := by decide +kernel
theorem dChooser_init_32 : decode cChooser_init 32 = .ok (.aload_n 0, 1) := by decide +kernel
theorem dChooser_init_33 : decode cChooser_init 33 = .ok (.getfield 23, 3) := by decide +kernel
theorem dChooser_init_36 : decode cChooser_init 36 = .ok (.iconst 1, 1) := by decide +kernel
theorem dChooser_init_37 : decode cChooser_init 37 = .ok (.invokestatic 27, 3) := by decide +kernel
theorem dChooser_init_40 : decode cChooser_init 40 = .ok (.putfield 31, 3) := by decide +kernel
theorem dChooser_init_43 : decode cChooser_init 43 = .ok (.return_, 1) := by decide +kernel
theorem dTagged_init_0 : decode cTagged_init 0 = .ok (.aload_n 0, 1) := by decide +kernel
theorem dTagged_init_1 : decode cTagged_init 1 = .ok (.iload_n 1, 1) := by decide +kernel
theorem dTagged_init_2 : decode cTagged_init 2 = .ok (.invokespecial 3, 3) := by decide +kernel
theorem dTagged_init_5 : decode cTagged_init 5 = .ok (.aload_n 0, 1) := by decide +kernel
theorem dTagged_init_6 : decode cTagged_init 6 = .ok (.new 9, 3) := by decide +kernel
theorem dTagged_init_9 : decode cTagged_init 9 = .ok (.dup, 1) := by decide +kernel
theorem dTagged_init_10 : decode cTagged_init 10 = .ok (.iload_n 1, 1) := by decide +kernel
theorem dTagged_init_11 : decode cTagged_init 11 = .ok (.iconst 0, 1) := by decide +kernel
theorem dTagged_init_12 : decode cTagged_init 12 = .ok (.invokespecial 11, 3) := by decide +kernel
theorem dTagged_init_15 : decode cTagged_init 15 = .ok (.putfield 14, 3) := by decide +kernel
theorem dTagged_init_18 : decode cTagged_init 18 = .ok (.aload_n 0, 1) := by decide +kernel
theorem dTagged_init_19 : decode cTagged_init 19 = .ok (.iconst 3, 1) := by decide +kernel
theorem dTagged_init_20 : decode cTagged_init 20 = .ok (.aload_n 0, 1) := by decide +kernel
theorem dTagged_init_21 : decode cTagged_init 21 = .ok (.getfield 20, 3) := by decide +kernel
theorem dTagged_init_24 : decode cTagged_init 24 = .ok (.imul, 1) := by decide +kernel
theorem dTagged_init_25 : decode cTagged_init 25 = .ok (.iconst (-1), 1) := by decide +kernel
theorem dTagged_init_26 : decode cTagged_init 26 = .ok (.invokestatic 24, 3) := by decide +kernel
theorem dTagged_init_29 : decode cTagged_init 29 = .ok (.putfield 28, 3) := by decide +kernel
theorem dTagged_init_32 : decode cTagged_init 32 = .ok (.aload_n 0, 1) := by decide +kernel
theorem dTagged_init_33 : decode cTagged_init 33 = .ok (.iconst 3, 1) := by decide +kernel
theorem dTagged_init_34 : decode cTagged_init 34 = .ok (.aload_n 0, 1) := by decide +kernel
theorem dTagged_init_35 : decode cTagged_init 35 = .ok (.getfield 20, 3) := by decide +kernel
theorem dTagged_init_38 : decode cTagged_init 38 = .ok (.imul, 1) := by decide +kernel
theorem dTagged_init_39 : decode cTagged_init 39 = .ok (.iconst 0, 1) := by decide +kernel
theorem dTagged_init_40 : decode cTagged_init 40 = .ok (.invokestatic 24, 3) := by decide +kernel
theorem dTagged_init_43 : decode cTagged_init 43 = .ok (.putfield 32, 3) := by decide +kernel
theorem dTagged_init_46 : decode cTagged_init 46 = .ok (.aload_n 0, 1) := by decide +kernel
theorem dTagged_init_47 : decode cTagged_init 47 = .ok (.iconst 3, 1) := by decide +kernel
theorem dTagged_init_48 : decode cTagged_init 48 = .ok (.aload_n 0, 1) := by decide +kernel
theorem dTagged_init_49 : decode cTagged_init 49 = .ok (.getfield 20, 3) := by decide +kernel
theorem dTagged_init_52 : decode cTagged_init 52 = .ok (.imul, 1) := by decide +kernel
theorem dTagged_init_53 : decode cTagged_init 53 = .ok (.iconst 0, 1) := by decide +kernel
theorem dTagged_init_54 : decode cTagged_init 54 = .ok (.invokestatic 24, 3) := by decide +kernel
theorem dTagged_init_57 : decode cTagged_init 57 = .ok (.putfield 35, 3) := by decide +kernel
theorem dTagged_init_60 : decode cTagged_init 60 = .ok (.return_, 1) := by decide +kernel
theorem dSums_init_0 : decode cSums_init 0 = .ok (.aload_n 0, 1) := by decide +kernel
theorem dSums_init_1 : decode cSums_init 1 = .ok (.iload_n 1, 1) := by decide +kernel
theorem dSums_init_2 : decode cSums_init 2 = .ok (.invokespecial 5, 3) := by decide +kernel
theorem dSums_init_5 : decode cSums_init 5 = .ok (.aload_n 0, 1) := by decide +kernel
theorem dSums_init_6 : decode cSums_init 6 = .ok (.bipush 9, 2) := by decide +kernel
theorem dSums_init_8 : decode cSums_init 8 = .ok (.aload_n 0, 1) := by decide +kernel
theorem dSums_init_9 : decode cSums_init 9 = .ok (.getfield 11, 3) := by decide +kernel
theorem dSums_init_12 : decode cSums_init 12 = .ok (.imul, 1) := by decide +kernel
theorem dSums_init_13 : decode cSums_init 13 = .ok (.iconst 0, 1) := by decide +kernel
theorem dSums_init_14 : decode cSums_init 14 = .ok (.invokestatic 15, 3) := by decide +kernel
theorem dSums_init_17 : decode cSums_init 17 = .ok (.putfield 19, 3) := by decide +kernel
theorem dSums_init_20 : decode cSums_init 20 = .ok (.return_, 1) := by decide +kernel
theorem dLoops_init_0 : decode cLoops_init 0 = .ok (.aload_n 0, 1) := by decide +kernel
theorem dLoops_init_1 : decode cLoops_init 1 = .ok (.iload_n 1, 1) := by decide +kernel
theorem dLoops_init_2 : decode cLoops_init 2 = .ok (.invokespecial 1, 3) := by decide +kernel
theorem dLoops_init_5 : decode cLoops_init 5 = .ok (.aload_n 0, 1) := by decide +kernel
theorem dLoops_init_6 : decode cLoops_init 6 = .ok (.new 7, 3) := by decide +kernel
theorem dLoops_init_9 : decode cLoops_init 9 = .ok (.dup, 1) := by decide +kernel
theorem dLoops_init_10 : decode cLoops_init 10 = .ok (.iload_n 1, 1) := by decide +kernel
theorem dLoops_init_11 : decode cLoops_init 11 = .ok (.iconst 0, 1) := by decide +kernel
theorem dLoops_init_12 : decode cLoops_init 12 = .ok (.invokespecial 9, 3) := by decide +kernel
theorem dLoops_init_15 : decode cLoops_init 15 = .ok (.putfield 12, 3) := by decide +kernel
theorem dLoops_init_18 : decode cLoops_init 18 = .ok (.aload_n 0, 1) := by decide +kernel
theorem dLoops_init_19 : decode cLoops_init 19 = .ok (.aload_n 0, 1) := by decide +kernel
theorem dLoops_init_20 : decode cLoops_init 20 = .ok (.getfield 18, 3) := by decide +kernel
theorem dLoops_init_23 : decode cLoops_init 23 = .ok (.iconst (-1), 1) := by decide +kernel
theorem dLoops_init_24 : decode cLoops_init 24 = .ok (.invokestatic 22, 3) := by decide +kernel
theorem dLoops_init_27 : decode cLoops_init 27 = .ok (.putfield 28, 3) := by decide +kernel
theorem dLoops_init_30 : decode cLoops_init 30 = .ok (.aload_n 0, 1) := by decide +kernel
theorem dLoops_init_31 : decode cLoops_init 31 = .ok (.aload_n 0, 1) := by decide +kernel
theorem dLoops_init_32 : decode cLoops_init 32 = .ok (.getfield 18, 3) := by decide +kernel
theorem dLoops_init_35 : decode cLoops_init 35 = .ok (.iconst 0, 1) := by decide +kernel
theorem dLoops_init_36 : decode cLoops_init 36 = .ok (.invokestatic 22, 3) := by decide +kernel
theorem dLoops_init_39 : decode cLoops_init 39 = .ok (.putfield 32, 3) := by decide +kernel
theorem dLoops_init_42 : decode cLoops_init 42 = .ok (.aload_n 0, 1) := by decide +kernel
theorem dLoops_init_43 : decode cLoops_init 43 = .ok (.aload_n 0, 1) := by decide +kernel
theorem dLoops_init_44 : decode cLoops_init 44 = .ok (.getfield 18, 3) := by decide +kernel
theorem dLoops_init_47 : decode cLoops_init 47 = .ok (.iconst 0, 1) := by decide +kernel
theorem dLoops_init_48 : decode cLoops_init 48 = .ok (.invokestatic 22, 3) := by decide +kernel
theorem dLoops_init_51 : decode cLoops_init 51 = .ok (.putfield 35, 3) := by decide +kernel
theorem dLoops_init_54 : decode cLoops_init 54 = .ok (.aload_n 0, 1) := by decide +kernel
theorem dLoops_init_55 : decode cLoops_init 55 = .ok (.aload_n 0, 1) := by decide +kernel
theorem dLoops_init_56 : decode cLoops_init 56 = .ok (.getfield 18, 3) := by decide +kernel
theorem dLoops_init_59 : decode cLoops_init 59 = .ok (.iconst 0, 1) := by decide +kernel
theorem dLoops_init_60 : decode cLoops_init 60 = .ok (.invokestatic 22, 3) := by decide +kernel
theorem dLoops_init_63 : decode cLoops_init 63 = .ok (.putfield 38, 3) := by decide +kernel
theorem dLoops_init_66 : decode cLoops_init 66 = .ok (.return_, 1) := by decide +kernel
theorem dCoin_init_0 : decode cCoin_init 0 = .ok (.aload_n 0, 1) := by decide +kernel
theorem dCoin_init_1 : decode cCoin_init 1 = .ok (.iload_n 1, 1) := by decide +kernel
theorem dCoin_init_2 : decode cCoin_init 2 = .ok (.invokespecial 1, 3) := by decide +kernel
theorem dCoin_init_5 : decode cCoin_init 5 = .ok (.aload_n 0, 1) := by decide +kernel
theorem dCoin_init_6 : decode cCoin_init 6 = .ok (.iload_n 2, 1) := by decide +kernel
theorem dCoin_init_7 : decode cCoin_init 7 = .ok (.putfield 7, 3) := by decide +kernel
theorem dCoin_init_10 : decode cCoin_init 10 = .ok (.return_, 1) := by decide +kernel
theorem dWaiting_init_0 : decode cWaiting_init 0 = .ok (.aload_n 0, 1) := by decide +kernel
theorem dWaiting_init_1 : decode cWaiting_init 1 = .ok (.invokespecial 3, 3) := by decide +kernel
theorem dWaiting_init_4 : decode cWaiting_init 4 = .ok (.aload_n 0, 1) := by decide +kernel
theorem dWaiting_init_5 : decode cWaiting_init 5 = .ok (.bipush 64, 2) := by decide +kernel
theorem dWaiting_init_7 : decode cWaiting_init 7 = .ok (.iconst 0, 1) := by decide +kernel
theorem dWaiting_init_8 : decode cWaiting_init 8 = .ok (.invokestatic 9, 3) := by decide +kernel
theorem dWaiting_init_11 : decode cWaiting_init 11 = .ok (.putfield 13, 3) := by decide +kernel
theorem dWaiting_init_14 : decode cWaiting_init 14 = .ok (.aload_n 0, 1) := by decide +kernel
theorem dWaiting_init_15 : decode cWaiting_init 15 = .ok (.bipush 64, 2) := by decide +kernel
theorem dWaiting_init_17 : decode cWaiting_init 17 = .ok (.iconst 0, 1) := by decide +kernel
theorem dWaiting_init_18 : decode cWaiting_init 18 = .ok (.invokestatic 9, 3) := by decide +kernel
theorem dWaiting_init_21 : decode cWaiting_init 21 = .ok (.putfield 19, 3) := by decide +kernel
theorem dWaiting_init_24 : decode cWaiting_init 24 = .ok (.aload_n 0, 1) := by decide +kernel
theorem dWaiting_init_25 : decode cWaiting_init 25 = .ok (.bipush 64, 2) := by decide +kernel
theorem dWaiting_init_27 : decode cWaiting_init 27 = .ok (.iconst 0, 1) := by decide +kernel
theorem dWaiting_init_28 : decode cWaiting_init 28 = .ok (.invokestatic 9, 3) := by decide +kernel
theorem dWaiting_init_31 : decode cWaiting_init 31 = .ok (.putfield 22, 3) := by decide +kernel
theorem dWaiting_init_34 : decode cWaiting_init 34 = .ok (.return_, 1) := by decide +kernel
theorem wd_6 : (Jvm.Cond.initialized "PredictorKinds$Counters") ∈ GW := gwm 6 (by decide +kernel) (by decide +kernel)
theorem wd_45 : (Jvm.Cond.methodLink "PredictorKinds$Last" (1 : Nat) ({ cls := "PredictorKinds$Kind", name := "<init>", desc := "(I)V" } : Jvm.MethodName)) ∈ GW := gwm 45 (by decide +kernel) (by decide +kernel)
theorem wd_48 : (Jvm.Cond.methodLink "PredictorKinds$Kind" (1 : Nat) ({ cls := "java/lang/Object", name := "<init>", desc := "()V" } : Jvm.MethodName)) ∈ GW := gwm 48 (by decide +kernel) (by decide +kernel)
theorem wd_52 : (Jvm.Cond.methodLink "PredictorKinds" (187 : Nat) ({ cls := "java/util/Arrays", name := "fill", desc := "([II)V" } : Jvm.MethodName)) ∈ GW := gwm 52 (by decide +kernel) (by decide +kernel)
theorem wd_71 : (Jvm.Cond.fieldLink "PredictorKinds$Kind" (13 : Nat) "PredictorKinds$Kind" "rows" "I") ∈ GW := gwm 71 (by decide +kernel) (by decide +kernel)
theorem wd_94 : (Jvm.Cond.arrayClass Jvm.ClassFile.FieldType.int) ∈ GW := gwm 94 (by decide +kernel) (by decide +kernel)
theorem wd_96 : (Jvm.Cond.instantiable "PredictorKinds$Counters" (5 : Nat)) ∈ GW := gwm 96 (by decide +kernel) (by decide +kernel)
theorem wd_100 : (Jvm.Cond.methodLink "PredictorKinds$Counters" (3 : Nat) ({ cls := "PredictorKinds$Kind", name := "<init>", desc := "(I)V" } : Jvm.MethodName)) ∈ GW := gwm 100 (by decide +kernel) (by decide +kernel)
theorem wd_117 : (Jvm.Cond.methodLink "PredictorKinds$Own" (3 : Nat) ({ cls := "PredictorKinds$Kind", name := "<init>", desc := "(I)V" } : Jvm.MethodName)) ∈ GW := gwm 117 (by decide +kernel) (by decide +kernel)
theorem wd_134 : (Jvm.Cond.methodLink "PredictorKinds$Chooser" (3 : Nat) ({ cls := "PredictorKinds$Kind", name := "<init>", desc := "(I)V" } : Jvm.MethodName)) ∈ GW := gwm 134 (by decide +kernel) (by decide +kernel)
theorem wd_135 : (Jvm.Cond.classLink "PredictorKinds$Chooser" (9 : Nat) "PredictorKinds$Counters") ∈ GW := gwm 135 (by decide +kernel) (by decide +kernel)
theorem wd_136 : (Jvm.Cond.methodLink "PredictorKinds$Chooser" (11 : Nat) ({ cls := "PredictorKinds$Counters", name := "<init>", desc := "(IZ)V" } : Jvm.MethodName)) ∈ GW := gwm 136 (by decide +kernel) (by decide +kernel)
theorem wd_156 : (Jvm.Cond.methodLink "PredictorKinds$Tagged" (3 : Nat) ({ cls := "PredictorKinds$Kind", name := "<init>", desc := "(I)V" } : Jvm.MethodName)) ∈ GW := gwm 156 (by decide +kernel) (by decide +kernel)
theorem wd_157 : (Jvm.Cond.classLink "PredictorKinds$Tagged" (9 : Nat) "PredictorKinds$Counters") ∈ GW := gwm 157 (by decide +kernel) (by decide +kernel)
theorem wd_158 : (Jvm.Cond.methodLink "PredictorKinds$Tagged" (11 : Nat) ({ cls := "PredictorKinds$Counters", name := "<init>", desc := "(IZ)V" } : Jvm.MethodName)) ∈ GW := gwm 158 (by decide +kernel) (by decide +kernel)
theorem wd_181 : (Jvm.Cond.methodLink "PredictorKinds$Sums" (5 : Nat) ({ cls := "PredictorKinds$Kind", name := "<init>", desc := "(I)V" } : Jvm.MethodName)) ∈ GW := gwm 181 (by decide +kernel) (by decide +kernel)
theorem wd_195 : (Jvm.Cond.methodLink "PredictorKinds$Loops" (1 : Nat) ({ cls := "PredictorKinds$Kind", name := "<init>", desc := "(I)V" } : Jvm.MethodName)) ∈ GW := gwm 195 (by decide +kernel) (by decide +kernel)
theorem wd_196 : (Jvm.Cond.classLink "PredictorKinds$Loops" (7 : Nat) "PredictorKinds$Counters") ∈ GW := gwm 196 (by decide +kernel) (by decide +kernel)
theorem wd_197 : (Jvm.Cond.methodLink "PredictorKinds$Loops" (9 : Nat) ({ cls := "PredictorKinds$Counters", name := "<init>", desc := "(IZ)V" } : Jvm.MethodName)) ∈ GW := gwm 197 (by decide +kernel) (by decide +kernel)
theorem wd_223 : (Jvm.Cond.methodLink "PredictorKinds$Coin" (1 : Nat) ({ cls := "PredictorKinds$Kind", name := "<init>", desc := "(I)V" } : Jvm.MethodName)) ∈ GW := gwm 223 (by decide +kernel) (by decide +kernel)
theorem wd_236 : (Jvm.Cond.methodLink "PredictorKinds$Always" (1 : Nat) ({ cls := "PredictorKinds$Kind", name := "<init>", desc := "(I)V" } : Jvm.MethodName)) ∈ GW := gwm 236 (by decide +kernel) (by decide +kernel)
theorem wd_246 : (Jvm.Cond.methodLink "PredictorKinds$Waiting" (3 : Nat) ({ cls := "java/lang/Object", name := "<init>", desc := "()V" } : Jvm.MethodName)) ∈ GW := gwm 246 (by decide +kernel) (by decide +kernel)
theorem wd_999001 : Cond.instanceMethod objectInit ∈ GW := gwm 28 (by decide +kernel) (by decide +kernel)
theorem wd_999002 : Cond.code objectInit ⟨#[0xb1]⟩ 1 none ∈ GW := gwm 29 (by decide +kernel) (by decide +kernel)
theorem wn_49 : (Jvm.Cond.methodLinkNest "PredictorKinds$Last" (13 : Nat) ({ cls := "PredictorKinds", name := "cells", desc := "(II)[I" } : Jvm.MethodName) "PredictorKinds") ∈ nws := nwm 49 (by decide) (by decide +kernel)
theorem wn_101 : (Jvm.Cond.methodLinkNest "PredictorKinds$Counters" (19 : Nat) ({ cls := "PredictorKinds", name := "cells", desc := "(II)[I" } : Jvm.MethodName) "PredictorKinds") ∈ nws := nwm 101 (by decide) (by decide +kernel)
theorem wn_118 : (Jvm.Cond.methodLinkNest "PredictorKinds$Own" (15 : Nat) ({ cls := "PredictorKinds", name := "cells", desc := "(II)[I" } : Jvm.MethodName) "PredictorKinds") ∈ nws := nwm 118 (by decide) (by decide +kernel)
theorem wn_137 : (Jvm.Cond.methodLinkNest "PredictorKinds$Chooser" (27 : Nat) ({ cls := "PredictorKinds", name := "cells", desc := "(II)[I" } : Jvm.MethodName) "PredictorKinds") ∈ nws := nwm 137 (by decide) (by decide +kernel)
theorem wn_159 : (Jvm.Cond.methodLinkNest "PredictorKinds$Tagged" (24 : Nat) ({ cls := "PredictorKinds", name := "cells", desc := "(II)[I" } : Jvm.MethodName) "PredictorKinds") ∈ nws := nwm 159 (by decide) (by decide +kernel)
theorem wn_182 : (Jvm.Cond.methodLinkNest "PredictorKinds$Sums" (15 : Nat) ({ cls := "PredictorKinds", name := "cells", desc := "(II)[I" } : Jvm.MethodName) "PredictorKinds") ∈ nws := nwm 182 (by decide) (by decide +kernel)
theorem wn_198 : (Jvm.Cond.methodLinkNest "PredictorKinds$Loops" (22 : Nat) ({ cls := "PredictorKinds", name := "cells", desc := "(II)[I" } : Jvm.MethodName) "PredictorKinds") ∈ nws := nwm 198 (by decide) (by decide +kernel)
theorem wn_247 : (Jvm.Cond.methodLinkNest "PredictorKinds$Waiting" (9 : Nat) ({ cls := "PredictorKinds", name := "cells", desc := "(II)[I" } : Jvm.MethodName) "PredictorKinds") ∈ nws := nwm 247 (by decide) (by decide +kernel)
