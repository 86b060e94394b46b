abbrev cPK_behind : ByteArray := prog_1_method_15_code
def yPK_behind : MethodName := ⟨R_PK, "behind", "(IZ)I"⟩
abbrev wPK_behind : List Cond := .code yPK_behind cPK_behind 2 (some .int) :: GW
theorem kPK_behind : Cond.code yPK_behind cPK_behind 2 (some .int) ∈ GW := gwm 447 (by decide +kernel) (by decide +kernel)
theorem pPK_behind : yPK_behind.cls ≠ "java/lang/invoke/MethodHandle" ∧ yPK_behind.cls ≠ "java/lang/invoke/VarHandle" ∧ (parseMethodDescriptor yPK_behind.desc).map (fun d => d.parameters.length) = some 2 := by decide +kernel
theorem qPK_behind : Cond.static yPK_behind ∈ GW := gwm 446 (by decide +kernel) (by decide +kernel)
theorem iPK_behind : Cond.initialized yPK_behind.cls ∈ GW := gwm 1 (by decide +kernel) (by decide +kernel)
abbrev cPK_bitOf : ByteArray := prog_1_method_16_code
def yPK_bitOf : MethodName := ⟨R_PK, "bitOf", "(II)Z"⟩
abbrev wPK_bitOf : List Cond := .code yPK_bitOf cPK_bitOf 2 (some .boolean) :: GW
theorem kPK_bitOf : Cond.code yPK_bitOf cPK_bitOf 2 (some .boolean) ∈ GW := gwm 342 (by decide +kernel) (by decide +kernel)
theorem pPK_bitOf : yPK_bitOf.cls ≠ "java/lang/invoke/MethodHandle" ∧ yPK_bitOf.cls ≠ "java/lang/invoke/VarHandle" ∧ (parseMethodDescriptor yPK_bitOf.desc).map (fun d => d.parameters.length) = some 2 := by decide +kernel
theorem qPK_bitOf : Cond.static yPK_bitOf ∈ GW := gwm 341 (by decide +kernel) (by decide +kernel)
theorem iPK_bitOf : Cond.initialized yPK_bitOf.cls ∈ GW := gwm 1 (by decide +kernel) (by decide +kernel)
abbrev cPK_maskOf : ByteArray := prog_1_method_17_code
def yPK_maskOf : MethodName := ⟨R_PK, "maskOf", "(I)I"⟩
abbrev wPK_maskOf : List Cond := .code yPK_maskOf cPK_maskOf 1 (some .int) :: GW
theorem kPK_maskOf : Cond.code yPK_maskOf cPK_maskOf 1 (some .int) ∈ GW := gwm 418 (by decide +kernel) (by decide +kernel)
theorem pPK_maskOf : yPK_maskOf.cls ≠ "java/lang/invoke/MethodHandle" ∧ yPK_maskOf.cls ≠ "java/lang/invoke/VarHandle" ∧ (parseMethodDescriptor yPK_maskOf.desc).map (fun d => d.parameters.length) = some 1 := by decide +kernel
theorem qPK_maskOf : Cond.static yPK_maskOf ∈ GW := gwm 417 (by decide +kernel) (by decide +kernel)
theorem iPK_maskOf : Cond.initialized yPK_maskOf.cls ∈ GW := gwm 1 (by decide +kernel) (by decide +kernel)
abbrev cPK_folded : ByteArray := prog_1_method_18_code
def yPK_folded : MethodName := ⟨R_PK, "folded", "(III)I"⟩
abbrev wPK_folded : List Cond := .code yPK_folded cPK_folded 7 (some .int) :: GW
theorem kPK_folded : Cond.code yPK_folded cPK_folded 7 (some .int) ∈ GW := gwm 415 (by decide +kernel) (by decide +kernel)
theorem pPK_folded : yPK_folded.cls ≠ "java/lang/invoke/MethodHandle" ∧ yPK_folded.cls ≠ "java/lang/invoke/VarHandle" ∧ (parseMethodDescriptor yPK_folded.desc).map (fun d => d.parameters.length) = some 3 := by decide +kernel
theorem qPK_folded : Cond.static yPK_folded ∈ GW := gwm 414 (by decide +kernel) (by decide +kernel)
theorem iPK_folded : Cond.initialized yPK_folded.cls ∈ GW := gwm 1 (by decide +kernel) (by decide +kernel)
abbrev cPK_at : ByteArray := prog_1_method_20_code
def yPK_at : MethodName := ⟨R_PK, "at", "([II)I"⟩
abbrev wPK_at : List Cond := .code yPK_at cPK_at 2 (some .int) :: GW
theorem kPK_at : Cond.code yPK_at cPK_at 2 (some .int) ∈ GW := gwm 324 (by decide +kernel) (by decide +kernel)
theorem pPK_at : yPK_at.cls ≠ "java/lang/invoke/MethodHandle" ∧ yPK_at.cls ≠ "java/lang/invoke/VarHandle" ∧ (parseMethodDescriptor yPK_at.desc).map (fun d => d.parameters.length) = some 2 := by decide +kernel
theorem qPK_at : Cond.static yPK_at ∈ GW := gwm 323 (by decide +kernel) (by decide +kernel)
theorem iPK_at : Cond.initialized yPK_at.cls ∈ GW := gwm 1 (by decide +kernel) (by decide +kernel)
abbrev cPK_put : ByteArray := prog_1_method_21_code
def yPK_put : MethodName := ⟨R_PK, "put", "([III)V"⟩
abbrev wPK_put : List Cond := .code yPK_put cPK_put 3 none :: GW
theorem kPK_put : Cond.code yPK_put cPK_put 3 none ∈ GW := gwm 444 (by decide +kernel) (by decide +kernel)
theorem pPK_put : yPK_put.cls ≠ "java/lang/invoke/MethodHandle" ∧ yPK_put.cls ≠ "java/lang/invoke/VarHandle" ∧ (parseMethodDescriptor yPK_put.desc).map (fun d => d.parameters.length) = some 3 := by decide +kernel
theorem qPK_put : Cond.static yPK_put ∈ GW := gwm 443 (by decide +kernel) (by decide +kernel)
theorem iPK_put : Cond.initialized yPK_put.cls ∈ GW := gwm 1 (by decide +kernel) (by decide +kernel)
abbrev cPK_step : ByteArray := prog_1_method_22_code
def yPK_step : MethodName := ⟨R_PK, "step", "([IIZII)V"⟩
abbrev wPK_step : List Cond := .code yPK_step cPK_step 6 none :: GW
theorem kPK_step : Cond.code yPK_step cPK_step 6 none ∈ GW := gwm 475 (by decide +kernel) (by decide +kernel)
theorem pPK_step : yPK_step.cls ≠ "java/lang/invoke/MethodHandle" ∧ yPK_step.cls ≠ "java/lang/invoke/VarHandle" ∧ (parseMethodDescriptor yPK_step.desc).map (fun d => d.parameters.length) = some 5 := by decide +kernel
theorem qPK_step : Cond.static yPK_step ∈ GW := gwm 474 (by decide +kernel) (by decide +kernel)
theorem iPK_step : Cond.initialized yPK_step.cls ∈ GW := gwm 1 (by decide +kernel) (by decide +kernel)
abbrev cPK_stepCounter : ByteArray := prog_1_method_23_code
def yPK_stepCounter : MethodName := ⟨R_PK, "stepCounter", "([IIZ)V"⟩
abbrev wPK_stepCounter : List Cond := .code yPK_stepCounter cPK_stepCounter 3 none :: GW
theorem kPK_stepCounter : Cond.code yPK_stepCounter cPK_stepCounter 3 none ∈ GW := gwm 472 (by decide +kernel) (by decide +kernel)
theorem pPK_stepCounter : yPK_stepCounter.cls ≠ "java/lang/invoke/MethodHandle" ∧ yPK_stepCounter.cls ≠ "java/lang/invoke/VarHandle" ∧ (parseMethodDescriptor yPK_stepCounter.desc).map (fun d => d.parameters.length) = some 3 := by decide +kernel
theorem qPK_stepCounter : Cond.static yPK_stepCounter ∈ GW := gwm 471 (by decide +kernel) (by decide +kernel)
theorem iPK_stepCounter : Cond.initialized yPK_stepCounter.cls ∈ GW := gwm 1 (by decide +kernel) (by decide +kernel)
abbrev cWaiting_length : ByteArray := prog_12_method_2_code
def yWaiting_length : MethodName := ⟨R_Waiting, "length", "()I"⟩
abbrev wWaiting_length : List Cond := .code yWaiting_length cWaiting_length 1 (some .int) :: GW
theorem kWaiting_length : Cond.code yWaiting_length cWaiting_length 1 (some .int) ∈ GW := gwm 658 (by decide +kernel) (by decide +kernel)
theorem pWaiting_length : yWaiting_length.cls ≠ "java/lang/invoke/MethodHandle" ∧ yWaiting_length.cls ≠ "java/lang/invoke/VarHandle" ∧ (parseMethodDescriptor yWaiting_length.desc).map (fun d => d.parameters.length) = some 0 := by decide +kernel
theorem qWaiting_length : Cond.instanceMethod yWaiting_length ∈ GW := gwm 656 (by decide +kernel) (by decide +kernel)
theorem iWaiting_length : Cond.initialized yWaiting_length.cls ∈ GW := gwm 14 (by decide +kernel) (by decide +kernel)
abbrev cWaiting_hasRoom : ByteArray := prog_12_method_3_code
def yWaiting_hasRoom : MethodName := ⟨R_Waiting, "hasRoom", "()Z"⟩
abbrev wWaiting_hasRoom : List Cond := .code yWaiting_hasRoom cWaiting_hasRoom 1 (some .boolean) :: GW
theorem kWaiting_hasRoom : Cond.code yWaiting_hasRoom cWaiting_hasRoom 1 (some .boolean) ∈ GW := gwm 432 (by decide +kernel) (by decide +kernel)
theorem pWaiting_hasRoom : yWaiting_hasRoom.cls ≠ "java/lang/invoke/MethodHandle" ∧ yWaiting_hasRoom.cls ≠ "java/lang/invoke/VarHandle" ∧ (parseMethodDescriptor yWaiting_hasRoom.desc).map (fun d => d.parameters.length) = some 0 := by decide +kernel
theorem qWaiting_hasRoom : Cond.instanceMethod yWaiting_hasRoom ∈ GW := gwm 430 (by decide +kernel) (by decide +kernel)
theorem iWaiting_hasRoom : Cond.initialized yWaiting_hasRoom.cls ∈ GW := gwm 14 (by decide +kernel) (by decide +kernel)
abbrev cWaiting_fill : ByteArray := prog_12_method_10_code
def yWaiting_fill : MethodName := ⟨R_Waiting, "fill", "(IIII)V"⟩
abbrev wWaiting_fill : List Cond := .code yWaiting_fill cWaiting_fill 5 none :: GW
theorem kWaiting_fill : Cond.code yWaiting_fill cWaiting_fill 5 none ∈ GW := gwm 441 (by decide +kernel) (by decide +kernel)
theorem pWaiting_fill : yWaiting_fill.cls ≠ "java/lang/invoke/MethodHandle" ∧ yWaiting_fill.cls ≠ "java/lang/invoke/VarHandle" ∧ (parseMethodDescriptor yWaiting_fill.desc).map (fun d => d.parameters.length) = some 4 := by decide +kernel
theorem qWaiting_fill : Cond.instanceMethod yWaiting_fill ∈ GW := gwm 440 (by decide +kernel) (by decide +kernel)
theorem iWaiting_fill : Cond.initialized yWaiting_fill.cls ∈ GW := gwm 14 (by decide +kernel) (by decide +kernel)
abbrev cWaiting_add : ByteArray := prog_12_method_4_code
def yWaiting_add : MethodName := ⟨R_Waiting, "add", "(IIZ)V"⟩
abbrev wWaiting_add : List Cond := .code yWaiting_add cWaiting_add 4 none :: GW
theorem kWaiting_add : Cond.code yWaiting_add cWaiting_add 4 none ∈ GW := gwm 436 (by decide +kernel) (by decide +kernel)
theorem pWaiting_add : yWaiting_add.cls ≠ "java/lang/invoke/MethodHandle" ∧ yWaiting_add.cls ≠ "java/lang/invoke/VarHandle" ∧ (parseMethodDescriptor yWaiting_add.desc).map (fun d => d.parameters.length) = some 3 := by decide +kernel
theorem qWaiting_add : Cond.instanceMethod yWaiting_add ∈ GW := gwm 434 (by decide +kernel) (by decide +kernel)
theorem iWaiting_add : Cond.initialized yWaiting_add.cls ∈ GW := gwm 14 (by decide +kernel) (by decide +kernel)
abbrev cWaiting_oldestOf : ByteArray := prog_12_method_5_code
def yWaiting_oldestOf : MethodName := ⟨R_Waiting, "oldestOf", "(I)I"⟩
abbrev wWaiting_oldestOf : List Cond := .code yWaiting_oldestOf cWaiting_oldestOf 3 (some .int) :: GW
theorem kWaiting_oldestOf : Cond.code yWaiting_oldestOf cWaiting_oldestOf 3 (some .int) ∈ GW := gwm 455 (by decide +kernel) (by decide +kernel)
theorem pWaiting_oldestOf : yWaiting_oldestOf.cls ≠ "java/lang/invoke/MethodHandle" ∧ yWaiting_oldestOf.cls ≠ "java/lang/invoke/VarHandle" ∧ (parseMethodDescriptor yWaiting_oldestOf.desc).map (fun d => d.parameters.length) = some 1 := by decide +kernel
theorem qWaiting_oldestOf : Cond.instanceMethod yWaiting_oldestOf ∈ GW := gwm 453 (by decide +kernel) (by decide +kernel)
theorem iWaiting_oldestOf : Cond.initialized yWaiting_oldestOf.cls ∈ GW := gwm 14 (by decide +kernel) (by decide +kernel)
abbrev cWaiting_historyBefore : ByteArray := prog_12_method_6_code
def yWaiting_historyBefore : MethodName := ⟨R_Waiting, "historyBefore", "(I)I"⟩
abbrev wWaiting_historyBefore : List Cond := .code yWaiting_historyBefore cWaiting_historyBefore 2 (some .int) :: GW
theorem kWaiting_historyBefore : Cond.code yWaiting_historyBefore cWaiting_historyBefore 2 (some .int) ∈ GW := gwm 460 (by decide +kernel) (by decide +kernel)
theorem pWaiting_historyBefore : yWaiting_historyBefore.cls ≠ "java/lang/invoke/MethodHandle" ∧ yWaiting_historyBefore.cls ≠ "java/lang/invoke/VarHandle" ∧ (parseMethodDescriptor yWaiting_historyBefore.desc).map (fun d => d.parameters.length) = some 1 := by decide +kernel
theorem qWaiting_historyBefore : Cond.instanceMethod yWaiting_historyBefore ∈ GW := gwm 458 (by decide +kernel) (by decide +kernel)
theorem iWaiting_historyBefore : Cond.initialized yWaiting_historyBefore.cls ∈ GW := gwm 14 (by decide +kernel) (by decide +kernel)
abbrev cWaiting_wasSaid : ByteArray := prog_12_method_7_code
def yWaiting_wasSaid : MethodName := ⟨R_Waiting, "wasSaid", "(I)Z"⟩
abbrev wWaiting_wasSaid : List Cond := .code yWaiting_wasSaid cWaiting_wasSaid 2 (some .boolean) :: GW
theorem kWaiting_wasSaid : Cond.code yWaiting_wasSaid cWaiting_wasSaid 2 (some .boolean) ∈ GW := gwm 544 (by decide +kernel) (by decide +kernel)
theorem pWaiting_wasSaid : yWaiting_wasSaid.cls ≠ "java/lang/invoke/MethodHandle" ∧ yWaiting_wasSaid.cls ≠ "java/lang/invoke/VarHandle" ∧ (parseMethodDescriptor yWaiting_wasSaid.desc).map (fun d => d.parameters.length) = some 1 := by decide +kernel
theorem qWaiting_wasSaid : Cond.instanceMethod yWaiting_wasSaid ∈ GW := gwm 542 (by decide +kernel) (by decide +kernel)
theorem iWaiting_wasSaid : Cond.initialized yWaiting_wasSaid.cls ∈ GW := gwm 14 (by decide +kernel) (by decide +kernel)
abbrev cWaiting_remove : ByteArray := prog_12_method_8_code
def yWaiting_remove : MethodName := ⟨R_Waiting, "remove", "(I)V"⟩
abbrev wWaiting_remove : List Cond := .code yWaiting_remove cWaiting_remove 3 none :: GW
theorem kWaiting_remove : Cond.code yWaiting_remove cWaiting_remove 3 none ∈ GW := gwm 548 (by decide +kernel) (by decide +kernel)
theorem pWaiting_remove : yWaiting_remove.cls ≠ "java/lang/invoke/MethodHandle" ∧ yWaiting_remove.cls ≠ "java/lang/invoke/VarHandle" ∧ (parseMethodDescriptor yWaiting_remove.desc).map (fun d => d.parameters.length) = some 1 := by decide +kernel
theorem qWaiting_remove : Cond.instanceMethod yWaiting_remove ∈ GW := gwm 546 (by decide +kernel) (by decide +kernel)
theorem iWaiting_remove : Cond.initialized yWaiting_remove.cls ∈ GW := gwm 14 (by decide +kernel) (by decide +kernel)
abbrev cWaiting_lose : ByteArray := prog_12_method_9_code
def yWaiting_lose : MethodName := ⟨R_Waiting, "lose", "()V"⟩
abbrev wWaiting_lose : List Cond := .code yWaiting_lose cWaiting_lose 1 none :: GW
theorem kWaiting_lose : Cond.code yWaiting_lose cWaiting_lose 1 none ∈ GW := gwm 552 (by decide +kernel) (by decide +kernel)
theorem pWaiting_lose : yWaiting_lose.cls ≠ "java/lang/invoke/MethodHandle" ∧ yWaiting_lose.cls ≠ "java/lang/invoke/VarHandle" ∧ (parseMethodDescriptor yWaiting_lose.desc).map (fun d => d.parameters.length) = some 0 := by decide +kernel
theorem qWaiting_lose : Cond.instanceMethod yWaiting_lose ∈ GW := gwm 550 (by decide +kernel) (by decide +kernel)
theorem iWaiting_lose : Cond.initialized yWaiting_lose.cls ∈ GW := gwm 14 (by decide +kernel) (by decide +kernel)
abbrev cKind_plainRow : ByteArray := prog_6_method_7_code
def yKind_plainRow : MethodName := ⟨R_Kind, "plainRow", "(I)I"⟩
abbrev wKind_plainRow : List Cond := .code yKind_plainRow cKind_plainRow 2 (some .int) :: GW
theorem kKind_plainRow : Cond.code yKind_plainRow cKind_plainRow 2 (some .int) ∈ GW := gwm 321 (by decide +kernel) (by decide +kernel)
theorem pKind_plainRow : yKind_plainRow.cls ≠ "java/lang/invoke/MethodHandle" ∧ yKind_plainRow.cls ≠ "java/lang/invoke/VarHandle" ∧ (parseMethodDescriptor yKind_plainRow.desc).map (fun d => d.parameters.length) = some 1 := by decide +kernel
theorem qKind_plainRow : Cond.instanceMethod yKind_plainRow ∈ GW := gwm 320 (by decide +kernel) (by decide +kernel)
theorem iKind_plainRow : Cond.initialized yKind_plainRow.cls ∈ GW := gwm 3 (by decide +kernel) (by decide +kernel)
abbrev cKind_answering : ByteArray := prog_6_method_6_code
def yKind_answering : MethodName := ⟨R_Kind, "answering", "(II)I"⟩
abbrev wKind_answering : List Cond := .code yKind_answering cKind_answering 3 (some .int) :: GW
theorem kKind_answering : Cond.code yKind_answering cKind_answering 3 (some .int) ∈ GW := gwm 612 (by decide +kernel) (by decide +kernel)
theorem pKind_answering : yKind_answering.cls ≠ "java/lang/invoke/MethodHandle" ∧ yKind_answering.cls ≠ "java/lang/invoke/VarHandle" ∧ (parseMethodDescriptor yKind_answering.desc).map (fun d => d.parameters.length) = some 2 := by decide +kernel
theorem qKind_answering : Cond.instanceMethod yKind_answering ∈ GW := gwm 595 (by decide +kernel) (by decide +kernel)
theorem iKind_answering : Cond.initialized yKind_answering.cls ∈ GW := gwm 3 (by decide +kernel) (by decide +kernel)
abbrev cAlways_number : ByteArray := prog_2_method_4_code
def yAlways_number : MethodName := ⟨R_Always, "number", "(II)I"⟩
abbrev wAlways_number : List Cond := .code yAlways_number cAlways_number 3 (some .int) :: GW
theorem kAlways_number : Cond.code yAlways_number cAlways_number 3 (some .int) ∈ GW := gwm 570 (by decide +kernel) (by decide +kernel)
theorem pAlways_number : yAlways_number.cls ≠ "java/lang/invoke/MethodHandle" ∧ yAlways_number.cls ≠ "java/lang/invoke/VarHandle" ∧ (parseMethodDescriptor yAlways_number.desc).map (fun d => d.parameters.length) = some 2 := by decide +kernel
theorem qAlways_number : Cond.instanceMethod yAlways_number ∈ GW := gwm 569 (by decide +kernel) (by decide +kernel)
theorem iAlways_number : Cond.initialized yAlways_number.cls ∈ GW := gwm 13 (by decide +kernel) (by decide +kernel)
abbrev cAlways_says : ByteArray := prog_2_method_2_code
def yAlways_says : MethodName := ⟨R_Always, "says", "(II)Z"⟩
abbrev wAlways_says : List Cond := .code yAlways_says cAlways_says 3 (some .boolean) :: GW
theorem kAlways_says : Cond.code yAlways_says cAlways_says 3 (some .boolean) ∈ GW := gwm 308 (by decide +kernel) (by decide +kernel)
theorem pAlways_says : yAlways_says.cls ≠ "java/lang/invoke/MethodHandle" ∧ yAlways_says.cls ≠ "java/lang/invoke/VarHandle" ∧ (parseMethodDescriptor yAlways_says.desc).map (fun d => d.parameters.length) = some 2 := by decide +kernel
theorem qAlways_says : Cond.instanceMethod yAlways_says ∈ GW := gwm 307 (by decide +kernel) (by decide +kernel)
theorem iAlways_says : Cond.initialized yAlways_says.cls ∈ GW := gwm 13 (by decide +kernel) (by decide +kernel)
abbrev cAlways_learn : ByteArray := prog_2_method_3_code
def yAlways_learn : MethodName := ⟨R_Always, "learn", "(IIZ)V"⟩
abbrev wAlways_learn : List Cond := .code yAlways_learn cAlways_learn 4 none :: GW
theorem kAlways_learn : Cond.code yAlways_learn cAlways_learn 4 none ∈ GW := gwm 466 (by decide +kernel) (by decide +kernel)
theorem pAlways_learn : yAlways_learn.cls ≠ "java/lang/invoke/MethodHandle" ∧ yAlways_learn.cls ≠ "java/lang/invoke/VarHandle" ∧ (parseMethodDescriptor yAlways_learn.desc).map (fun d => d.parameters.length) = some 3 := by decide +kernel
theorem qAlways_learn : Cond.instanceMethod yAlways_learn ∈ GW := gwm 465 (by decide +kernel) (by decide +kernel)
theorem iAlways_learn : Cond.initialized yAlways_learn.cls ∈ GW := gwm 13 (by decide +kernel) (by decide +kernel)
abbrev cAlways_bits : ByteArray := prog_2_method_5_code
def yAlways_bits : MethodName := ⟨R_Always, "bits", "()I"⟩
abbrev wAlways_bits : List Cond := .code yAlways_bits cAlways_bits 1 (some .int) :: GW
theorem kAlways_bits : Cond.code yAlways_bits cAlways_bits 1 (some .int) ∈ GW := gwm 622 (by decide +kernel) (by decide +kernel)
theorem pAlways_bits : yAlways_bits.cls ≠ "java/lang/invoke/MethodHandle" ∧ yAlways_bits.cls ≠ "java/lang/invoke/VarHandle" ∧ (parseMethodDescriptor yAlways_bits.desc).map (fun d => d.parameters.length) = some 0 := by decide +kernel
theorem qAlways_bits : Cond.instanceMethod yAlways_bits ∈ GW := gwm 621 (by decide +kernel) (by decide +kernel)
theorem iAlways_bits : Cond.initialized yAlways_bits.cls ∈ GW := gwm 13 (by decide +kernel) (by decide +kernel)
abbrev cLast_number : ByteArray := prog_7_method_4_code
def yLast_number : MethodName := ⟨R_Last, "number", "(II)I"⟩
abbrev wLast_number : List Cond := .code yLast_number cLast_number 3 (some .int) :: GW
theorem kLast_number : Cond.code yLast_number cLast_number 3 (some .int) ∈ GW := gwm 350 (by decide +kernel) (by decide +kernel)
theorem pLast_number : yLast_number.cls ≠ "java/lang/invoke/MethodHandle" ∧ yLast_number.cls ≠ "java/lang/invoke/VarHandle" ∧ (parseMethodDescriptor yLast_number.desc).map (fun d => d.parameters.length) = some 2 := by decide +kernel
theorem qLast_number : Cond.instanceMethod yLast_number ∈ GW := gwm 348 (by decide +kernel) (by decide +kernel)
theorem iLast_number : Cond.initialized yLast_number.cls ∈ GW := gwm 4 (by decide +kernel) (by decide +kernel)
abbrev cLast_says : ByteArray := prog_7_method_2_code
def yLast_says : MethodName := ⟨R_Last, "says", "(II)Z"⟩
abbrev wLast_says : List Cond := .code yLast_says cLast_says 3 (some .boolean) :: GW
theorem kLast_says : Cond.code yLast_says cLast_says 3 (some .boolean) ∈ GW := gwm 346 (by decide +kernel) (by decide +kernel)
theorem pLast_says : yLast_says.cls ≠ "java/lang/invoke/MethodHandle" ∧ yLast_says.cls ≠ "java/lang/invoke/VarHandle" ∧ (parseMethodDescriptor yLast_says.desc).map (fun d => d.parameters.length) = some 2 := by decide +kernel
theorem qLast_says : Cond.instanceMethod yLast_says ∈ GW := gwm 345 (by decide +kernel) (by decide +kernel)
theorem iLast_says : Cond.initialized yLast_says.cls ∈ GW := gwm 4 (by decide +kernel) (by decide +kernel)
abbrev cLast_learn : ByteArray := prog_7_method_3_code
def yLast_learn : MethodName := ⟨R_Last, "learn", "(IIZ)V"⟩
abbrev wLast_learn : List Cond := .code yLast_learn cLast_learn 4 none :: GW
theorem kLast_learn : Cond.code yLast_learn cLast_learn 4 none ∈ GW := gwm 490 (by decide +kernel) (by decide +kernel)
theorem pLast_learn : yLast_learn.cls ≠ "java/lang/invoke/MethodHandle" ∧ yLast_learn.cls ≠ "java/lang/invoke/VarHandle" ∧ (parseMethodDescriptor yLast_learn.desc).map (fun d => d.parameters.length) = some 3 := by decide +kernel
theorem qLast_learn : Cond.instanceMethod yLast_learn ∈ GW := gwm 489 (by decide +kernel) (by decide +kernel)
theorem iLast_learn : Cond.initialized yLast_learn.cls ∈ GW := gwm 4 (by decide +kernel) (by decide +kernel)
abbrev cLast_bits : ByteArray := prog_7_method_5_code
def yLast_bits : MethodName := ⟨R_Last, "bits", "()I"⟩
abbrev wLast_bits : List Cond := .code yLast_bits cLast_bits 1 (some .int) :: GW
theorem kLast_bits : Cond.code yLast_bits cLast_bits 1 (some .int) ∈ GW := gwm 636 (by decide +kernel) (by decide +kernel)
theorem pLast_bits : yLast_bits.cls ≠ "java/lang/invoke/MethodHandle" ∧ yLast_bits.cls ≠ "java/lang/invoke/VarHandle" ∧ (parseMethodDescriptor yLast_bits.desc).map (fun d => d.parameters.length) = some 0 := by decide +kernel
theorem qLast_bits : Cond.instanceMethod yLast_bits ∈ GW := gwm 635 (by decide +kernel) (by decide +kernel)
theorem iLast_bits : Cond.initialized yLast_bits.cls ∈ GW := gwm 4 (by decide +kernel) (by decide +kernel)
abbrev cCounters_counterRow : ByteArray := prog_5_method_6_code
def yCounters_counterRow : MethodName := ⟨R_Counters, "counterRow", "(II)I"⟩
abbrev wCounters_counterRow : List Cond := .code yCounters_counterRow cCounters_counterRow 3 (some .int) :: GW
theorem kCounters_counterRow : Cond.code yCounters_counterRow cCounters_counterRow 3 (some .int) ∈ GW := gwm 332 (by decide +kernel) (by decide +kernel)
theorem pCounters_counterRow : yCounters_counterRow.cls ≠ "java/lang/invoke/MethodHandle" ∧ yCounters_counterRow.cls ≠ "java/lang/invoke/VarHandle" ∧ (parseMethodDescriptor yCounters_counterRow.desc).map (fun d => d.parameters.length) = some 2 := by decide +kernel
theorem qCounters_counterRow : Cond.instanceMethod yCounters_counterRow ∈ GW := gwm 331 (by decide +kernel) (by decide +kernel)
theorem iCounters_counterRow : Cond.initialized yCounters_counterRow.cls ∈ GW := gwm 6 (by decide +kernel) (by decide +kernel)
abbrev cCounters_number : ByteArray := prog_5_method_4_code
def yCounters_number : MethodName := ⟨R_Counters, "number", "(II)I"⟩
abbrev wCounters_number : List Cond := .code yCounters_number cCounters_number 3 (some .int) :: GW
theorem kCounters_number : Cond.code yCounters_number cCounters_number 3 (some .int) ∈ GW := gwm 579 (by decide +kernel) (by decide +kernel)
theorem pCounters_number : yCounters_number.cls ≠ "java/lang/invoke/MethodHandle" ∧ yCounters_number.cls ≠ "java/lang/invoke/VarHandle" ∧ (parseMethodDescriptor yCounters_number.desc).map (fun d => d.parameters.length) = some 2 := by decide +kernel
theorem qCounters_number : Cond.instanceMethod yCounters_number ∈ GW := gwm 578 (by decide +kernel) (by decide +kernel)
theorem iCounters_number : Cond.initialized yCounters_number.cls ∈ GW := gwm 6 (by decide +kernel) (by decide +kernel)
abbrev cCounters_says : ByteArray := prog_5_method_2_code
def yCounters_says : MethodName := ⟨R_Counters, "says", "(II)Z"⟩
abbrev wCounters_says : List Cond := .code yCounters_says cCounters_says 3 (some .boolean) :: GW
theorem kCounters_says : Cond.code yCounters_says cCounters_says 3 (some .boolean) ∈ GW := gwm 328 (by decide +kernel) (by decide +kernel)
theorem pCounters_says : yCounters_says.cls ≠ "java/lang/invoke/MethodHandle" ∧ yCounters_says.cls ≠ "java/lang/invoke/VarHandle" ∧ (parseMethodDescriptor yCounters_says.desc).map (fun d => d.parameters.length) = some 2 := by decide +kernel
theorem qCounters_says : Cond.instanceMethod yCounters_says ∈ GW := gwm 326 (by decide +kernel) (by decide +kernel)
theorem iCounters_says : Cond.initialized yCounters_says.cls ∈ GW := gwm 6 (by decide +kernel) (by decide +kernel)
abbrev cCounters_learn : ByteArray := prog_5_method_3_code
def yCounters_learn : MethodName := ⟨R_Counters, "learn", "(IIZ)V"⟩
abbrev wCounters_learn : List Cond := .code yCounters_learn cCounters_learn 4 none :: GW
theorem kCounters_learn : Cond.code yCounters_learn cCounters_learn 4 none ∈ GW := gwm 481 (by decide +kernel) (by decide +kernel)
theorem pCounters_learn : yCounters_learn.cls ≠ "java/lang/invoke/MethodHandle" ∧ yCounters_learn.cls ≠ "java/lang/invoke/VarHandle" ∧ (parseMethodDescriptor yCounters_learn.desc).map (fun d => d.parameters.length) = some 3 := by decide +kernel
theorem qCounters_learn : Cond.instanceMethod yCounters_learn ∈ GW := gwm 479 (by decide +kernel) (by decide +kernel)
theorem iCounters_learn : Cond.initialized yCounters_learn.cls ∈ GW := gwm 6 (by decide +kernel) (by decide +kernel)
abbrev cCounters_bits : ByteArray := prog_5_method_5_code
def yCounters_bits : MethodName := ⟨R_Counters, "bits", "()I"⟩
abbrev wCounters_bits : List Cond := .code yCounters_bits cCounters_bits 1 (some .int) :: GW
theorem kCounters_bits : Cond.code yCounters_bits cCounters_bits 1 (some .int) ∈ GW := gwm 629 (by decide +kernel) (by decide +kernel)
theorem pCounters_bits : yCounters_bits.cls ≠ "java/lang/invoke/MethodHandle" ∧ yCounters_bits.cls ≠ "java/lang/invoke/VarHandle" ∧ (parseMethodDescriptor yCounters_bits.desc).map (fun d => d.parameters.length) = some 0 := by decide +kernel
theorem qCounters_bits : Cond.instanceMethod yCounters_bits ∈ GW := gwm 627 (by decide +kernel) (by decide +kernel)
theorem iCounters_bits : Cond.initialized yCounters_bits.cls ∈ GW := gwm 6 (by decide +kernel) (by decide +kernel)
abbrev cOwn_number : ByteArray := prog_9_method_4_code
def yOwn_number : MethodName := ⟨R_Own, "number", "(II)I"⟩
abbrev wOwn_number : List Cond := .code yOwn_number cOwn_number 3 (some .int) :: GW
theorem kOwn_number : Cond.code yOwn_number cOwn_number 3 (some .int) ∈ GW := gwm 381 (by decide +kernel) (by decide +kernel)
theorem pOwn_number : yOwn_number.cls ≠ "java/lang/invoke/MethodHandle" ∧ yOwn_number.cls ≠ "java/lang/invoke/VarHandle" ∧ (parseMethodDescriptor yOwn_number.desc).map (fun d => d.parameters.length) = some 2 := by decide +kernel
theorem qOwn_number : Cond.instanceMethod yOwn_number ∈ GW := gwm 379 (by decide +kernel) (by decide +kernel)
theorem iOwn_number : Cond.initialized yOwn_number.cls ∈ GW := gwm 7 (by decide +kernel) (by decide +kernel)
abbrev cOwn_says : ByteArray := prog_9_method_2_code
def yOwn_says : MethodName := ⟨R_Own, "says", "(II)Z"⟩
abbrev wOwn_says : List Cond := .code yOwn_says cOwn_says 3 (some .boolean) :: GW
theorem kOwn_says : Cond.code yOwn_says cOwn_says 3 (some .boolean) ∈ GW := gwm 377 (by decide +kernel) (by decide +kernel)
theorem pOwn_says : yOwn_says.cls ≠ "java/lang/invoke/MethodHandle" ∧ yOwn_says.cls ≠ "java/lang/invoke/VarHandle" ∧ (parseMethodDescriptor yOwn_says.desc).map (fun d => d.parameters.length) = some 2 := by decide +kernel
theorem qOwn_says : Cond.instanceMethod yOwn_says ∈ GW := gwm 376 (by decide +kernel) (by decide +kernel)
theorem iOwn_says : Cond.initialized yOwn_says.cls ∈ GW := gwm 7 (by decide +kernel) (by decide +kernel)
abbrev cOwn_learn : ByteArray := prog_9_method_3_code
def yOwn_learn : MethodName := ⟨R_Own, "learn", "(IIZ)V"⟩
abbrev wOwn_learn : List Cond := .code yOwn_learn cOwn_learn 6 none :: GW
theorem kOwn_learn : Cond.code yOwn_learn cOwn_learn 6 none ∈ GW := gwm 512 (by decide +kernel) (by decide +kernel)
theorem pOwn_learn : yOwn_learn.cls ≠ "java/lang/invoke/MethodHandle" ∧ yOwn_learn.cls ≠ "java/lang/invoke/VarHandle" ∧ (parseMethodDescriptor yOwn_learn.desc).map (fun d => d.parameters.length) = some 3 := by decide +kernel
theorem qOwn_learn : Cond.instanceMethod yOwn_learn ∈ GW := gwm 511 (by decide +kernel) (by decide +kernel)
theorem iOwn_learn : Cond.initialized yOwn_learn.cls ∈ GW := gwm 7 (by decide +kernel) (by decide +kernel)
abbrev cOwn_bits : ByteArray := prog_9_method_5_code
def yOwn_bits : MethodName := ⟨R_Own, "bits", "()I"⟩
abbrev wOwn_bits : List Cond := .code yOwn_bits cOwn_bits 1 (some .int) :: GW
theorem kOwn_bits : Cond.code yOwn_bits cOwn_bits 1 (some .int) ∈ GW := gwm 643 (by decide +kernel) (by decide +kernel)
theorem pOwn_bits : yOwn_bits.cls ≠ "java/lang/invoke/MethodHandle" ∧ yOwn_bits.cls ≠ "java/lang/invoke/VarHandle" ∧ (parseMethodDescriptor yOwn_bits.desc).map (fun d => d.parameters.length) = some 0 := by decide +kernel
theorem qOwn_bits : Cond.instanceMethod yOwn_bits ∈ GW := gwm 642 (by decide +kernel) (by decide +kernel)
theorem iOwn_bits : Cond.initialized yOwn_bits.cls ∈ GW := gwm 7 (by decide +kernel) (by decide +kernel)
abbrev cChooser_takesMixed : ByteArray := prog_3_method_7_code
def yChooser_takesMixed : MethodName := ⟨R_Chooser, "takesMixed", "(I)Z"⟩
abbrev wChooser_takesMixed : List Cond := .code yChooser_takesMixed cChooser_takesMixed 2 (some .boolean) :: GW
theorem kChooser_takesMixed : Cond.code yChooser_takesMixed cChooser_takesMixed 2 (some .boolean) ∈ GW := gwm 315 (by decide +kernel) (by decide +kernel)
theorem pChooser_takesMixed : yChooser_takesMixed.cls ≠ "java/lang/invoke/MethodHandle" ∧ yChooser_takesMixed.cls ≠ "java/lang/invoke/VarHandle" ∧ (parseMethodDescriptor yChooser_takesMixed.desc).map (fun d => d.parameters.length) = some 1 := by decide +kernel
theorem qChooser_takesMixed : Cond.instanceMethod yChooser_takesMixed ∈ GW := gwm 314 (by decide +kernel) (by decide +kernel)
theorem iChooser_takesMixed : Cond.initialized yChooser_takesMixed.cls ∈ GW := gwm 8 (by decide +kernel) (by decide +kernel)
abbrev cChooser_number : ByteArray := prog_3_method_4_code
def yChooser_number : MethodName := ⟨R_Chooser, "number", "(II)I"⟩
abbrev wChooser_number : List Cond := .code yChooser_number cChooser_number 3 (some .int) :: GW
theorem kChooser_number : Cond.code yChooser_number cChooser_number 3 (some .int) ∈ GW := gwm 573 (by decide +kernel) (by decide +kernel)
theorem pChooser_number : yChooser_number.cls ≠ "java/lang/invoke/MethodHandle" ∧ yChooser_number.cls ≠ "java/lang/invoke/VarHandle" ∧ (parseMethodDescriptor yChooser_number.desc).map (fun d => d.parameters.length) = some 2 := by decide +kernel
theorem qChooser_number : Cond.instanceMethod yChooser_number ∈ GW := gwm 572 (by decide +kernel) (by decide +kernel)
theorem iChooser_number : Cond.initialized yChooser_number.cls ∈ GW := gwm 8 (by decide +kernel) (by decide +kernel)
abbrev cChooser_says : ByteArray := prog_3_method_2_code
def yChooser_says : MethodName := ⟨R_Chooser, "says", "(II)Z"⟩
abbrev wChooser_says : List Cond := .code yChooser_says cChooser_says 3 (some .boolean) :: GW
theorem kChooser_says : Cond.code yChooser_says cChooser_says 3 (some .boolean) ∈ GW := gwm 311 (by decide +kernel) (by decide +kernel)
theorem pChooser_says : yChooser_says.cls ≠ "java/lang/invoke/MethodHandle" ∧ yChooser_says.cls ≠ "java/lang/invoke/VarHandle" ∧ (parseMethodDescriptor yChooser_says.desc).map (fun d => d.parameters.length) = some 2 := by decide +kernel
theorem qChooser_says : Cond.instanceMethod yChooser_says ∈ GW := gwm 310 (by decide +kernel) (by decide +kernel)
theorem iChooser_says : Cond.initialized yChooser_says.cls ∈ GW := gwm 8 (by decide +kernel) (by decide +kernel)
abbrev cChooser_learn : ByteArray := prog_3_method_3_code
def yChooser_learn : MethodName := ⟨R_Chooser, "learn", "(IIZ)V"⟩
abbrev wChooser_learn : List Cond := .code yChooser_learn cChooser_learn 6 none :: GW
theorem kChooser_learn : Cond.code yChooser_learn cChooser_learn 6 none ∈ GW := gwm 469 (by decide +kernel) (by decide +kernel)
theorem pChooser_learn : yChooser_learn.cls ≠ "java/lang/invoke/MethodHandle" ∧ yChooser_learn.cls ≠ "java/lang/invoke/VarHandle" ∧ (parseMethodDescriptor yChooser_learn.desc).map (fun d => d.parameters.length) = some 3 := by decide +kernel
theorem qChooser_learn : Cond.instanceMethod yChooser_learn ∈ GW := gwm 468 (by decide +kernel) (by decide +kernel)
theorem iChooser_learn : Cond.initialized yChooser_learn.cls ∈ GW := gwm 8 (by decide +kernel) (by decide +kernel)
abbrev cChooser_bits : ByteArray := prog_3_method_6_code
def yChooser_bits : MethodName := ⟨R_Chooser, "bits", "()I"⟩
abbrev wChooser_bits : List Cond := .code yChooser_bits cChooser_bits 1 (some .int) :: GW
theorem kChooser_bits : Cond.code yChooser_bits cChooser_bits 1 (some .int) ∈ GW := gwm 625 (by decide +kernel) (by decide +kernel)
theorem pChooser_bits : yChooser_bits.cls ≠ "java/lang/invoke/MethodHandle" ∧ yChooser_bits.cls ≠ "java/lang/invoke/VarHandle" ∧ (parseMethodDescriptor yChooser_bits.desc).map (fun d => d.parameters.length) = some 0 := by decide +kernel
theorem qChooser_bits : Cond.instanceMethod yChooser_bits ∈ GW := gwm 624 (by decide +kernel) (by decide +kernel)
theorem iChooser_bits : Cond.initialized yChooser_bits.cls ∈ GW := gwm 8 (by decide +kernel) (by decide +kernel)
abbrev cChooser_answering : ByteArray := prog_3_method_5_code
def yChooser_answering : MethodName := ⟨R_Chooser, "answering", "(II)I"⟩
abbrev wChooser_answering : List Cond := .code yChooser_answering cChooser_answering 3 (some .int) :: GW
theorem kChooser_answering : Cond.code yChooser_answering cChooser_answering 3 (some .int) ∈ GW := gwm 600 (by decide +kernel) (by decide +kernel)
theorem pChooser_answering : yChooser_answering.cls ≠ "java/lang/invoke/MethodHandle" ∧ yChooser_answering.cls ≠ "java/lang/invoke/VarHandle" ∧ (parseMethodDescriptor yChooser_answering.desc).map (fun d => d.parameters.length) = some 2 := by decide +kernel
theorem qChooser_answering : Cond.instanceMethod yChooser_answering ∈ GW := gwm 599 (by decide +kernel) (by decide +kernel)
theorem iChooser_answering : Cond.initialized yChooser_answering.cls ∈ GW := gwm 8 (by decide +kernel) (by decide +kernel)
abbrev cLoops_tagOf : ByteArray := prog_8_method_7_code
def yLoops_tagOf : MethodName := ⟨R_Loops, "tagOf", "(I)I"⟩
abbrev wLoops_tagOf : List Cond := .code yLoops_tagOf cLoops_tagOf 2 (some .int) :: GW
theorem kLoops_tagOf : Cond.code yLoops_tagOf cLoops_tagOf 2 (some .int) ∈ GW := gwm 373 (by decide +kernel) (by decide +kernel)
theorem pLoops_tagOf : yLoops_tagOf.cls ≠ "java/lang/invoke/MethodHandle" ∧ yLoops_tagOf.cls ≠ "java/lang/invoke/VarHandle" ∧ (parseMethodDescriptor yLoops_tagOf.desc).map (fun d => d.parameters.length) = some 1 := by decide +kernel
theorem qLoops_tagOf : Cond.instanceMethod yLoops_tagOf ∈ GW := gwm 372 (by decide +kernel) (by decide +kernel)
theorem iLoops_tagOf : Cond.initialized yLoops_tagOf.cls ∈ GW := gwm 11 (by decide +kernel) (by decide +kernel)
abbrev cLoops_hasTag : ByteArray := prog_8_method_8_code
def yLoops_hasTag : MethodName := ⟨R_Loops, "hasTag", "(I)Z"⟩
abbrev wLoops_hasTag : List Cond := .code yLoops_hasTag cLoops_hasTag 2 (some .boolean) :: GW
theorem kLoops_hasTag : Cond.code yLoops_hasTag cLoops_hasTag 2 (some .boolean) ∈ GW := gwm 365 (by decide +kernel) (by decide +kernel)
theorem pLoops_hasTag : yLoops_hasTag.cls ≠ "java/lang/invoke/MethodHandle" ∧ yLoops_hasTag.cls ≠ "java/lang/invoke/VarHandle" ∧ (parseMethodDescriptor yLoops_hasTag.desc).map (fun d => d.parameters.length) = some 1 := by decide +kernel
theorem qLoops_hasTag : Cond.instanceMethod yLoops_hasTag ∈ GW := gwm 364 (by decide +kernel) (by decide +kernel)
theorem iLoops_hasTag : Cond.initialized yLoops_hasTag.cls ∈ GW := gwm 11 (by decide +kernel) (by decide +kernel)
abbrev cLoops_isTrusted : ByteArray := prog_8_method_9_code
def yLoops_isTrusted : MethodName := ⟨R_Loops, "isTrusted", "(I)Z"⟩
abbrev wLoops_isTrusted : List Cond := .code yLoops_isTrusted cLoops_isTrusted 2 (some .boolean) :: GW
theorem kLoops_isTrusted : Cond.code yLoops_isTrusted cLoops_isTrusted 2 (some .boolean) ∈ GW := gwm 361 (by decide +kernel) (by decide +kernel)
theorem pLoops_isTrusted : yLoops_isTrusted.cls ≠ "java/lang/invoke/MethodHandle" ∧ yLoops_isTrusted.cls ≠ "java/lang/invoke/VarHandle" ∧ (parseMethodDescriptor yLoops_isTrusted.desc).map (fun d => d.parameters.length) = some 1 := by decide +kernel
theorem qLoops_isTrusted : Cond.instanceMethod yLoops_isTrusted ∈ GW := gwm 360 (by decide +kernel) (by decide +kernel)
theorem iLoops_isTrusted : Cond.initialized yLoops_isTrusted.cls ∈ GW := gwm 11 (by decide +kernel) (by decide +kernel)
abbrev cLoops_forget : ByteArray := prog_8_method_12_code
def yLoops_forget : MethodName := ⟨R_Loops, "forget", "(I)V"⟩
abbrev wLoops_forget : List Cond := .code yLoops_forget cLoops_forget 2 none :: GW
theorem kLoops_forget : Cond.code yLoops_forget cLoops_forget 2 none ∈ GW := gwm 504 (by decide +kernel) (by decide +kernel)
theorem pLoops_forget : yLoops_forget.cls ≠ "java/lang/invoke/MethodHandle" ∧ yLoops_forget.cls ≠ "java/lang/invoke/VarHandle" ∧ (parseMethodDescriptor yLoops_forget.desc).map (fun d => d.parameters.length) = some 1 := by decide +kernel
theorem qLoops_forget : Cond.instanceMethod yLoops_forget ∈ GW := gwm 503 (by decide +kernel) (by decide +kernel)
theorem iLoops_forget : Cond.initialized yLoops_forget.cls ∈ GW := gwm 11 (by decide +kernel) (by decide +kernel)
abbrev cLoops_goRound : ByteArray := prog_8_method_10_code
def yLoops_goRound : MethodName := ⟨R_Loops, "goRound", "(I)V"⟩
abbrev wLoops_goRound : List Cond := .code yLoops_goRound cLoops_goRound 3 none :: GW
theorem kLoops_goRound : Cond.code yLoops_goRound cLoops_goRound 3 none ∈ GW := gwm 499 (by decide +kernel) (by decide +kernel)
theorem pLoops_goRound : yLoops_goRound.cls ≠ "java/lang/invoke/MethodHandle" ∧ yLoops_goRound.cls ≠ "java/lang/invoke/VarHandle" ∧ (parseMethodDescriptor yLoops_goRound.desc).map (fun d => d.parameters.length) = some 1 := by decide +kernel
theorem qLoops_goRound : Cond.instanceMethod yLoops_goRound ∈ GW := gwm 498 (by decide +kernel) (by decide +kernel)
theorem iLoops_goRound : Cond.initialized yLoops_goRound.cls ∈ GW := gwm 11 (by decide +kernel) (by decide +kernel)
abbrev cLoops_leave : ByteArray := prog_8_method_11_code
def yLoops_leave : MethodName := ⟨R_Loops, "leave", "(I)V"⟩
abbrev wLoops_leave : List Cond := .code yLoops_leave cLoops_leave 3 none :: GW
theorem kLoops_leave : Cond.code yLoops_leave cLoops_leave 3 none ∈ GW := gwm 508 (by decide +kernel) (by decide +kernel)
theorem pLoops_leave : yLoops_leave.cls ≠ "java/lang/invoke/MethodHandle" ∧ yLoops_leave.cls ≠ "java/lang/invoke/VarHandle" ∧ (parseMethodDescriptor yLoops_leave.desc).map (fun d => d.parameters.length) = some 1 := by decide +kernel
theorem qLoops_leave : Cond.instanceMethod yLoops_leave ∈ GW := gwm 507 (by decide +kernel) (by decide +kernel)
theorem iLoops_leave : Cond.initialized yLoops_leave.cls ∈ GW := gwm 11 (by decide +kernel) (by decide +kernel)
abbrev cLoops_number : ByteArray := prog_8_method_4_code
def yLoops_number : MethodName := ⟨R_Loops, "number", "(II)I"⟩
abbrev wLoops_number : List Cond := .code yLoops_number cLoops_number 3 (some .int) :: GW
theorem kLoops_number : Cond.code yLoops_number cLoops_number 3 (some .int) ∈ GW := gwm 583 (by decide +kernel) (by decide +kernel)
theorem pLoops_number : yLoops_number.cls ≠ "java/lang/invoke/MethodHandle" ∧ yLoops_number.cls ≠ "java/lang/invoke/VarHandle" ∧ (parseMethodDescriptor yLoops_number.desc).map (fun d => d.parameters.length) = some 2 := by decide +kernel
theorem qLoops_number : Cond.instanceMethod yLoops_number ∈ GW := gwm 582 (by decide +kernel) (by decide +kernel)
theorem iLoops_number : Cond.initialized yLoops_number.cls ∈ GW := gwm 11 (by decide +kernel) (by decide +kernel)
abbrev cLoops_says : ByteArray := prog_8_method_2_code
def yLoops_says : MethodName := ⟨R_Loops, "says", "(II)Z"⟩
abbrev wLoops_says : List Cond := .code yLoops_says cLoops_says 4 (some .boolean) :: GW
theorem kLoops_says : Cond.code yLoops_says cLoops_says 4 (some .boolean) ∈ GW := gwm 357 (by decide +kernel) (by decide +kernel)
theorem pLoops_says : yLoops_says.cls ≠ "java/lang/invoke/MethodHandle" ∧ yLoops_says.cls ≠ "java/lang/invoke/VarHandle" ∧ (parseMethodDescriptor yLoops_says.desc).map (fun d => d.parameters.length) = some 2 := by decide +kernel
theorem qLoops_says : Cond.instanceMethod yLoops_says ∈ GW := gwm 356 (by decide +kernel) (by decide +kernel)
theorem iLoops_says : Cond.initialized yLoops_says.cls ∈ GW := gwm 11 (by decide +kernel) (by decide +kernel)
abbrev cLoops_learn : ByteArray := prog_8_method_3_code
def yLoops_learn : MethodName := ⟨R_Loops, "learn", "(IIZ)V"⟩
abbrev wLoops_learn : List Cond := .code yLoops_learn cLoops_learn 5 none :: GW
theorem kLoops_learn : Cond.code yLoops_learn cLoops_learn 5 none ∈ GW := gwm 494 (by decide +kernel) (by decide +kernel)
theorem pLoops_learn : yLoops_learn.cls ≠ "java/lang/invoke/MethodHandle" ∧ yLoops_learn.cls ≠ "java/lang/invoke/VarHandle" ∧ (parseMethodDescriptor yLoops_learn.desc).map (fun d => d.parameters.length) = some 3 := by decide +kernel
theorem qLoops_learn : Cond.instanceMethod yLoops_learn ∈ GW := gwm 493 (by decide +kernel) (by decide +kernel)
theorem iLoops_learn : Cond.initialized yLoops_learn.cls ∈ GW := gwm 11 (by decide +kernel) (by decide +kernel)
abbrev cLoops_bits : ByteArray := prog_8_method_6_code
def yLoops_bits : MethodName := ⟨R_Loops, "bits", "()I"⟩
abbrev wLoops_bits : List Cond := .code yLoops_bits cLoops_bits 1 (some .int) :: GW
theorem kLoops_bits : Cond.code yLoops_bits cLoops_bits 1 (some .int) ∈ GW := gwm 639 (by decide +kernel) (by decide +kernel)
theorem pLoops_bits : yLoops_bits.cls ≠ "java/lang/invoke/MethodHandle" ∧ yLoops_bits.cls ≠ "java/lang/invoke/VarHandle" ∧ (parseMethodDescriptor yLoops_bits.desc).map (fun d => d.parameters.length) = some 0 := by decide +kernel
theorem qLoops_bits : Cond.instanceMethod yLoops_bits ∈ GW := gwm 638 (by decide +kernel) (by decide +kernel)
theorem iLoops_bits : Cond.initialized yLoops_bits.cls ∈ GW := gwm 11 (by decide +kernel) (by decide +kernel)
abbrev cLoops_answering : ByteArray := prog_8_method_5_code
def yLoops_answering : MethodName := ⟨R_Loops, "answering", "(II)I"⟩
abbrev wLoops_answering : List Cond := .code yLoops_answering cLoops_answering 3 (some .int) :: GW
theorem kLoops_answering : Cond.code yLoops_answering cLoops_answering 3 (some .int) ∈ GW := gwm 606 (by decide +kernel) (by decide +kernel)
theorem pLoops_answering : yLoops_answering.cls ≠ "java/lang/invoke/MethodHandle" ∧ yLoops_answering.cls ≠ "java/lang/invoke/VarHandle" ∧ (parseMethodDescriptor yLoops_answering.desc).map (fun d => d.parameters.length) = some 2 := by decide +kernel
theorem qLoops_answering : Cond.instanceMethod yLoops_answering ∈ GW := gwm 605 (by decide +kernel) (by decide +kernel)
theorem iLoops_answering : Cond.initialized yLoops_answering.cls ∈ GW := gwm 11 (by decide +kernel) (by decide +kernel)
abbrev cCoin_number : ByteArray := prog_4_method_4_code
def yCoin_number : MethodName := ⟨R_Coin, "number", "(II)I"⟩
abbrev wCoin_number : List Cond := .code yCoin_number cCoin_number 3 (some .int) :: GW
theorem kCoin_number : Cond.code yCoin_number cCoin_number 3 (some .int) ∈ GW := gwm 576 (by decide +kernel) (by decide +kernel)
theorem pCoin_number : yCoin_number.cls ≠ "java/lang/invoke/MethodHandle" ∧ yCoin_number.cls ≠ "java/lang/invoke/VarHandle" ∧ (parseMethodDescriptor yCoin_number.desc).map (fun d => d.parameters.length) = some 2 := by decide +kernel
theorem qCoin_number : Cond.instanceMethod yCoin_number ∈ GW := gwm 575 (by decide +kernel) (by decide +kernel)
theorem iCoin_number : Cond.initialized yCoin_number.cls ∈ GW := gwm 12 (by decide +kernel) (by decide +kernel)
abbrev cCoin_says : ByteArray := prog_4_method_2_code
def yCoin_says : MethodName := ⟨R_Coin, "says", "(II)Z"⟩
abbrev wCoin_says : List Cond := .code yCoin_says cCoin_says 3 (some .boolean) :: GW
theorem kCoin_says : Cond.code yCoin_says cCoin_says 3 (some .boolean) ∈ GW := gwm 339 (by decide +kernel) (by decide +kernel)
theorem pCoin_says : yCoin_says.cls ≠ "java/lang/invoke/MethodHandle" ∧ yCoin_says.cls ≠ "java/lang/invoke/VarHandle" ∧ (parseMethodDescriptor yCoin_says.desc).map (fun d => d.parameters.length) = some 2 := by decide +kernel
theorem qCoin_says : Cond.instanceMethod yCoin_says ∈ GW := gwm 338 (by decide +kernel) (by decide +kernel)
theorem iCoin_says : Cond.initialized yCoin_says.cls ∈ GW := gwm 12 (by decide +kernel) (by decide +kernel)
abbrev cCoin_learn : ByteArray := prog_4_method_3_code
def yCoin_learn : MethodName := ⟨R_Coin, "learn", "(IIZ)V"⟩
abbrev wCoin_learn : List Cond := .code yCoin_learn cCoin_learn 4 none :: GW
theorem kCoin_learn : Cond.code yCoin_learn cCoin_learn 4 none ∈ GW := gwm 485 (by decide +kernel) (by decide +kernel)
theorem pCoin_learn : yCoin_learn.cls ≠ "java/lang/invoke/MethodHandle" ∧ yCoin_learn.cls ≠ "java/lang/invoke/VarHandle" ∧ (parseMethodDescriptor yCoin_learn.desc).map (fun d => d.parameters.length) = some 3 := by decide +kernel
theorem qCoin_learn : Cond.instanceMethod yCoin_learn ∈ GW := gwm 484 (by decide +kernel) (by decide +kernel)
theorem iCoin_learn : Cond.initialized yCoin_learn.cls ∈ GW := gwm 12 (by decide +kernel) (by decide +kernel)
abbrev cCoin_bits : ByteArray := prog_4_method_5_code
def yCoin_bits : MethodName := ⟨R_Coin, "bits", "()I"⟩
abbrev wCoin_bits : List Cond := .code yCoin_bits cCoin_bits 1 (some .int) :: GW
theorem kCoin_bits : Cond.code yCoin_bits cCoin_bits 1 (some .int) ∈ GW := gwm 632 (by decide +kernel) (by decide +kernel)
theorem pCoin_bits : yCoin_bits.cls ≠ "java/lang/invoke/MethodHandle" ∧ yCoin_bits.cls ≠ "java/lang/invoke/VarHandle" ∧ (parseMethodDescriptor yCoin_bits.desc).map (fun d => d.parameters.length) = some 0 := by decide +kernel
theorem qCoin_bits : Cond.instanceMethod yCoin_bits ∈ GW := gwm 631 (by decide +kernel) (by decide +kernel)
theorem iCoin_bits : Cond.initialized yCoin_bits.cls ∈ GW := gwm 12 (by decide +kernel) (by decide +kernel)
abbrev cSums_firstWeight : ByteArray := prog_10_method_6_code
def ySums_firstWeight : MethodName := ⟨R_Sums, "firstWeight", "(I)I"⟩
abbrev wSums_firstWeight : List Cond := .code ySums_firstWeight cSums_firstWeight 2 (some .int) :: GW
theorem kSums_firstWeight : Cond.code ySums_firstWeight cSums_firstWeight 2 (some .int) ∈ GW := gwm 396 (by decide +kernel) (by decide +kernel)
theorem pSums_firstWeight : ySums_firstWeight.cls ≠ "java/lang/invoke/MethodHandle" ∧ ySums_firstWeight.cls ≠ "java/lang/invoke/VarHandle" ∧ (parseMethodDescriptor ySums_firstWeight.desc).map (fun d => d.parameters.length) = some 1 := by decide +kernel
theorem qSums_firstWeight : Cond.instanceMethod ySums_firstWeight ∈ GW := gwm 395 (by decide +kernel) (by decide +kernel)
theorem iSums_firstWeight : Cond.initialized ySums_firstWeight.cls ∈ GW := gwm 10 (by decide +kernel) (by decide +kernel)
abbrev cSums_number : ByteArray := prog_10_method_4_code
def ySums_number : MethodName := ⟨R_Sums, "number", "(II)I"⟩
abbrev wSums_number : List Cond := .code ySums_number cSums_number 7 (some .int) :: GW
theorem kSums_number : Cond.code ySums_number cSums_number 7 (some .int) ∈ GW := gwm 392 (by decide +kernel) (by decide +kernel)
theorem pSums_number : ySums_number.cls ≠ "java/lang/invoke/MethodHandle" ∧ ySums_number.cls ≠ "java/lang/invoke/VarHandle" ∧ (parseMethodDescriptor ySums_number.desc).map (fun d => d.parameters.length) = some 2 := by decide +kernel
theorem qSums_number : Cond.instanceMethod ySums_number ∈ GW := gwm 390 (by decide +kernel) (by decide +kernel)
theorem iSums_number : Cond.initialized ySums_number.cls ∈ GW := gwm 10 (by decide +kernel) (by decide +kernel)
abbrev cSums_says : ByteArray := prog_10_method_2_code
def ySums_says : MethodName := ⟨R_Sums, "says", "(II)Z"⟩
abbrev wSums_says : List Cond := .code ySums_says cSums_says 3 (some .boolean) :: GW
theorem kSums_says : Cond.code ySums_says cSums_says 3 (some .boolean) ∈ GW := gwm 388 (by decide +kernel) (by decide +kernel)
theorem pSums_says : ySums_says.cls ≠ "java/lang/invoke/MethodHandle" ∧ ySums_says.cls ≠ "java/lang/invoke/VarHandle" ∧ (parseMethodDescriptor ySums_says.desc).map (fun d => d.parameters.length) = some 2 := by decide +kernel
theorem qSums_says : Cond.instanceMethod ySums_says ∈ GW := gwm 387 (by decide +kernel) (by decide +kernel)
theorem iSums_says : Cond.initialized ySums_says.cls ∈ GW := gwm 10 (by decide +kernel) (by decide +kernel)
abbrev cSums_learn : ByteArray := prog_10_method_3_code
def ySums_learn : MethodName := ⟨R_Sums, "learn", "(IIZ)V"⟩
abbrev wSums_learn : List Cond := .code ySums_learn cSums_learn 8 none :: GW
theorem kSums_learn : Cond.code ySums_learn cSums_learn 8 none ∈ GW := gwm 518 (by decide +kernel) (by decide +kernel)
theorem pSums_learn : ySums_learn.cls ≠ "java/lang/invoke/MethodHandle" ∧ ySums_learn.cls ≠ "java/lang/invoke/VarHandle" ∧ (parseMethodDescriptor ySums_learn.desc).map (fun d => d.parameters.length) = some 3 := by decide +kernel
theorem qSums_learn : Cond.instanceMethod ySums_learn ∈ GW := gwm 517 (by decide +kernel) (by decide +kernel)
theorem iSums_learn : Cond.initialized ySums_learn.cls ∈ GW := gwm 10 (by decide +kernel) (by decide +kernel)
abbrev cSums_bits : ByteArray := prog_10_method_5_code
def ySums_bits : MethodName := ⟨R_Sums, "bits", "()I"⟩
abbrev wSums_bits : List Cond := .code ySums_bits cSums_bits 1 (some .int) :: GW
theorem kSums_bits : Cond.code ySums_bits cSums_bits 1 (some .int) ∈ GW := gwm 646 (by decide +kernel) (by decide +kernel)
theorem pSums_bits : ySums_bits.cls ≠ "java/lang/invoke/MethodHandle" ∧ ySums_bits.cls ≠ "java/lang/invoke/VarHandle" ∧ (parseMethodDescriptor ySums_bits.desc).map (fun d => d.parameters.length) = some 0 := by decide +kernel
theorem qSums_bits : Cond.instanceMethod ySums_bits ∈ GW := gwm 645 (by decide +kernel) (by decide +kernel)
theorem iSums_bits : Cond.initialized ySums_bits.cls ∈ GW := gwm 10 (by decide +kernel) (by decide +kernel)
abbrev cTagged_cellOf : ByteArray := prog_11_method_11_code
def yTagged_cellOf : MethodName := ⟨R_Tagged, "cellOf", "(III)I"⟩
abbrev wTagged_cellOf : List Cond := .code yTagged_cellOf cTagged_cellOf 5 (some .int) :: GW
theorem kTagged_cellOf : Cond.code yTagged_cellOf cTagged_cellOf 5 (some .int) ∈ GW := gwm 412 (by decide +kernel) (by decide +kernel)
theorem pTagged_cellOf : yTagged_cellOf.cls ≠ "java/lang/invoke/MethodHandle" ∧ yTagged_cellOf.cls ≠ "java/lang/invoke/VarHandle" ∧ (parseMethodDescriptor yTagged_cellOf.desc).map (fun d => d.parameters.length) = some 3 := by decide +kernel
theorem qTagged_cellOf : Cond.instanceMethod yTagged_cellOf ∈ GW := gwm 411 (by decide +kernel) (by decide +kernel)
theorem iTagged_cellOf : Cond.initialized yTagged_cellOf.cls ∈ GW := gwm 9 (by decide +kernel) (by decide +kernel)
abbrev cTagged_tagOf : ByteArray := prog_11_method_12_code
def yTagged_tagOf : MethodName := ⟨R_Tagged, "tagOf", "(III)I"⟩
abbrev wTagged_tagOf : List Cond := .code yTagged_tagOf cTagged_tagOf 5 (some .int) :: GW
theorem kTagged_tagOf : Cond.code yTagged_tagOf cTagged_tagOf 5 (some .int) ∈ GW := gwm 423 (by decide +kernel) (by decide +kernel)
theorem pTagged_tagOf : yTagged_tagOf.cls ≠ "java/lang/invoke/MethodHandle" ∧ yTagged_tagOf.cls ≠ "java/lang/invoke/VarHandle" ∧ (parseMethodDescriptor yTagged_tagOf.desc).map (fun d => d.parameters.length) = some 3 := by decide +kernel
theorem qTagged_tagOf : Cond.instanceMethod yTagged_tagOf ∈ GW := gwm 422 (by decide +kernel) (by decide +kernel)
theorem iTagged_tagOf : Cond.initialized yTagged_tagOf.cls ∈ GW := gwm 9 (by decide +kernel) (by decide +kernel)
abbrev cTagged_lastHit : ByteArray := prog_11_method_7_code
def yTagged_lastHit : MethodName := ⟨R_Tagged, "lastHit", "(III)I"⟩
abbrev wTagged_lastHit : List Cond := .code yTagged_lastHit cTagged_lastHit 5 (some .int) :: GW
theorem kTagged_lastHit : Cond.code yTagged_lastHit cTagged_lastHit 5 (some .int) ∈ GW := gwm 408 (by decide +kernel) (by decide +kernel)
theorem pTagged_lastHit : yTagged_lastHit.cls ≠ "java/lang/invoke/MethodHandle" ∧ yTagged_lastHit.cls ≠ "java/lang/invoke/VarHandle" ∧ (parseMethodDescriptor yTagged_lastHit.desc).map (fun d => d.parameters.length) = some 3 := by decide +kernel
theorem qTagged_lastHit : Cond.instanceMethod yTagged_lastHit ∈ GW := gwm 407 (by decide +kernel) (by decide +kernel)
theorem iTagged_lastHit : Cond.initialized yTagged_lastHit.cls ∈ GW := gwm 9 (by decide +kernel) (by decide +kernel)
abbrev cTagged_saidBy : ByteArray := prog_11_method_8_code
def yTagged_saidBy : MethodName := ⟨R_Tagged, "saidBy", "(III)Z"⟩
abbrev wTagged_saidBy : List Cond := .code yTagged_saidBy cTagged_saidBy 4 (some .boolean) :: GW
theorem kTagged_saidBy : Cond.code yTagged_saidBy cTagged_saidBy 4 (some .boolean) ∈ GW := gwm 427 (by decide +kernel) (by decide +kernel)
theorem pTagged_saidBy : yTagged_saidBy.cls ≠ "java/lang/invoke/MethodHandle" ∧ yTagged_saidBy.cls ≠ "java/lang/invoke/VarHandle" ∧ (parseMethodDescriptor yTagged_saidBy.desc).map (fun d => d.parameters.length) = some 3 := by decide +kernel
theorem qTagged_saidBy : Cond.instanceMethod yTagged_saidBy ∈ GW := gwm 426 (by decide +kernel) (by decide +kernel)
theorem iTagged_saidBy : Cond.initialized yTagged_saidBy.cls ∈ GW := gwm 9 (by decide +kernel) (by decide +kernel)
abbrev cTagged_learnHit : ByteArray := prog_11_method_9_code
def yTagged_learnHit : MethodName := ⟨R_Tagged, "learnHit", "(IIIZ)V"⟩
abbrev wTagged_learnHit : List Cond := .code yTagged_learnHit cTagged_learnHit 8 none :: GW
theorem kTagged_learnHit : Cond.code yTagged_learnHit cTagged_learnHit 8 none ∈ GW := gwm 530 (by decide +kernel) (by decide +kernel)
theorem pTagged_learnHit : yTagged_learnHit.cls ≠ "java/lang/invoke/MethodHandle" ∧ yTagged_learnHit.cls ≠ "java/lang/invoke/VarHandle" ∧ (parseMethodDescriptor yTagged_learnHit.desc).map (fun d => d.parameters.length) = some 4 := by decide +kernel
theorem qTagged_learnHit : Cond.instanceMethod yTagged_learnHit ∈ GW := gwm 529 (by decide +kernel) (by decide +kernel)
theorem iTagged_learnHit : Cond.initialized yTagged_learnHit.cls ∈ GW := gwm 9 (by decide +kernel) (by decide +kernel)
abbrev cTagged_claim : ByteArray := prog_11_method_10_code
def yTagged_claim : MethodName := ⟨R_Tagged, "claim", "(IIIZ)V"⟩
abbrev wTagged_claim : List Cond := .code yTagged_claim cTagged_claim 7 none :: GW
theorem kTagged_claim : Cond.code yTagged_claim cTagged_claim 7 none ∈ GW := gwm 535 (by decide +kernel) (by decide +kernel)
theorem pTagged_claim : yTagged_claim.cls ≠ "java/lang/invoke/MethodHandle" ∧ yTagged_claim.cls ≠ "java/lang/invoke/VarHandle" ∧ (parseMethodDescriptor yTagged_claim.desc).map (fun d => d.parameters.length) = some 4 := by decide +kernel
theorem qTagged_claim : Cond.instanceMethod yTagged_claim ∈ GW := gwm 534 (by decide +kernel) (by decide +kernel)
theorem iTagged_claim : Cond.initialized yTagged_claim.cls ∈ GW := gwm 9 (by decide +kernel) (by decide +kernel)
abbrev cTagged_says : ByteArray := prog_11_method_2_code
def yTagged_says : MethodName := ⟨R_Tagged, "says", "(II)Z"⟩
abbrev wTagged_says : List Cond := .code yTagged_says cTagged_says 3 (some .boolean) :: GW
theorem kTagged_says : Cond.code yTagged_says cTagged_says 3 (some .boolean) ∈ GW := gwm 404 (by decide +kernel) (by decide +kernel)
theorem pTagged_says : yTagged_says.cls ≠ "java/lang/invoke/MethodHandle" ∧ yTagged_says.cls ≠ "java/lang/invoke/VarHandle" ∧ (parseMethodDescriptor yTagged_says.desc).map (fun d => d.parameters.length) = some 2 := by decide +kernel
theorem qTagged_says : Cond.instanceMethod yTagged_says ∈ GW := gwm 403 (by decide +kernel) (by decide +kernel)
theorem iTagged_says : Cond.initialized yTagged_says.cls ∈ GW := gwm 9 (by decide +kernel) (by decide +kernel)
abbrev cTagged_learn : ByteArray := prog_11_method_3_code
def yTagged_learn : MethodName := ⟨R_Tagged, "learn", "(IIZ)V"⟩
abbrev wTagged_learn : List Cond := .code yTagged_learn cTagged_learn 6 none :: GW
theorem kTagged_learn : Cond.code yTagged_learn cTagged_learn 6 none ∈ GW := gwm 525 (by decide +kernel) (by decide +kernel)
theorem pTagged_learn : yTagged_learn.cls ≠ "java/lang/invoke/MethodHandle" ∧ yTagged_learn.cls ≠ "java/lang/invoke/VarHandle" ∧ (parseMethodDescriptor yTagged_learn.desc).map (fun d => d.parameters.length) = some 3 := by decide +kernel
theorem qTagged_learn : Cond.instanceMethod yTagged_learn ∈ GW := gwm 524 (by decide +kernel) (by decide +kernel)
theorem iTagged_learn : Cond.initialized yTagged_learn.cls ∈ GW := gwm 9 (by decide +kernel) (by decide +kernel)
abbrev cTagged_number : ByteArray := prog_11_method_4_code
def yTagged_number : MethodName := ⟨R_Tagged, "number", "(II)I"⟩
abbrev wTagged_number : List Cond := .code yTagged_number cTagged_number 4 (some .int) :: GW
theorem kTagged_number : Cond.code yTagged_number cTagged_number 4 (some .int) ∈ GW := gwm 588 (by decide +kernel) (by decide +kernel)
theorem pTagged_number : yTagged_number.cls ≠ "java/lang/invoke/MethodHandle" ∧ yTagged_number.cls ≠ "java/lang/invoke/VarHandle" ∧ (parseMethodDescriptor yTagged_number.desc).map (fun d => d.parameters.length) = some 2 := by decide +kernel
theorem qTagged_number : Cond.instanceMethod yTagged_number ∈ GW := gwm 587 (by decide +kernel) (by decide +kernel)
theorem iTagged_number : Cond.initialized yTagged_number.cls ∈ GW := gwm 9 (by decide +kernel) (by decide +kernel)
abbrev cTagged_answering : ByteArray := prog_11_method_5_code
def yTagged_answering : MethodName := ⟨R_Tagged, "answering", "(II)I"⟩
abbrev wTagged_answering : List Cond := .code yTagged_answering cTagged_answering 3 (some .int) :: GW
theorem kTagged_answering : Cond.code yTagged_answering cTagged_answering 3 (some .int) ∈ GW := gwm 611 (by decide +kernel) (by decide +kernel)
theorem pTagged_answering : yTagged_answering.cls ≠ "java/lang/invoke/MethodHandle" ∧ yTagged_answering.cls ≠ "java/lang/invoke/VarHandle" ∧ (parseMethodDescriptor yTagged_answering.desc).map (fun d => d.parameters.length) = some 2 := by decide +kernel
theorem qTagged_answering : Cond.instanceMethod yTagged_answering ∈ GW := gwm 610 (by decide +kernel) (by decide +kernel)
theorem iTagged_answering : Cond.initialized yTagged_answering.cls ∈ GW := gwm 9 (by decide +kernel) (by decide +kernel)
abbrev cTagged_bits : ByteArray := prog_11_method_6_code
def yTagged_bits : MethodName := ⟨R_Tagged, "bits", "()I"⟩
abbrev wTagged_bits : List Cond := .code yTagged_bits cTagged_bits 1 (some .int) :: GW
theorem kTagged_bits : Cond.code yTagged_bits cTagged_bits 1 (some .int) ∈ GW := gwm 649 (by decide +kernel) (by decide +kernel)
theorem pTagged_bits : yTagged_bits.cls ≠ "java/lang/invoke/MethodHandle" ∧ yTagged_bits.cls ≠ "java/lang/invoke/VarHandle" ∧ (parseMethodDescriptor yTagged_bits.desc).map (fun d => d.parameters.length) = some 0 := by decide +kernel
theorem qTagged_bits : Cond.instanceMethod yTagged_bits ∈ GW := gwm 648 (by decide +kernel) (by decide +kernel)
theorem iTagged_bits : Cond.initialized yTagged_bits.cls ∈ GW := gwm 9 (by decide +kernel) (by decide +kernel)
abbrev cPK_settle : ByteArray := prog_1_method_13_code
def yPK_settle : MethodName := ⟨R_PK, "settle", "(IIZ)V"⟩
abbrev wPK_settle : List Cond := .code yPK_settle cPK_settle 4 none :: GW
theorem kPK_settle : Cond.code yPK_settle cPK_settle 4 none ∈ GW := gwm 540 (by decide +kernel) (by decide +kernel)
theorem pPK_settle : yPK_settle.cls ≠ "java/lang/invoke/MethodHandle" ∧ yPK_settle.cls ≠ "java/lang/invoke/VarHandle" ∧ (parseMethodDescriptor yPK_settle.desc).map (fun d => d.parameters.length) = some 3 := by decide +kernel
theorem qPK_settle : Cond.instanceMethod yPK_settle ∈ GW := gwm 539 (by decide +kernel) (by decide +kernel)
theorem iPK_settle : Cond.initialized yPK_settle.cls ∈ GW := gwm 1 (by decide +kernel) (by decide +kernel)
abbrev cPK_early : ByteArray := prog_1_method_4_code
def yPK_early : MethodName := ⟨R_PK, "early", "(Z)Z"⟩
abbrev wPK_early : List Cond := .code yPK_early cPK_early 3 (some .boolean) :: GW
theorem kPK_early : Cond.code yPK_early cPK_early 3 (some .boolean) ∈ GW := gwm 556 (by decide +kernel) (by decide +kernel)
theorem pPK_early : yPK_early.cls ≠ "java/lang/invoke/MethodHandle" ∧ yPK_early.cls ≠ "java/lang/invoke/VarHandle" ∧ (parseMethodDescriptor yPK_early.desc).map (fun d => d.parameters.length) = some 1 := by decide +kernel
theorem qPK_early : Cond.instanceMethod yPK_early ∈ GW := gwm 554 (by decide +kernel) (by decide +kernel)
theorem iPK_early : Cond.initialized yPK_early.cls ∈ GW := gwm 1 (by decide +kernel) (by decide +kernel)
abbrev cPK_history : ByteArray := prog_1_method_5_code
def yPK_history : MethodName := ⟨R_PK, "history", "()I"⟩
abbrev wPK_history : List Cond := .code yPK_history cPK_history 1 (some .int) :: GW
theorem kPK_history : Cond.code yPK_history cPK_history 1 (some .int) ∈ GW := gwm 560 (by decide +kernel) (by decide +kernel)
theorem pPK_history : yPK_history.cls ≠ "java/lang/invoke/MethodHandle" ∧ yPK_history.cls ≠ "java/lang/invoke/VarHandle" ∧ (parseMethodDescriptor yPK_history.desc).map (fun d => d.parameters.length) = some 0 := by decide +kernel
theorem qPK_history : Cond.instanceMethod yPK_history ∈ GW := gwm 558 (by decide +kernel) (by decide +kernel)
theorem iPK_history : Cond.initialized yPK_history.cls ∈ GW := gwm 1 (by decide +kernel) (by decide +kernel)
abbrev cPK_count : ByteArray := prog_1_method_11_code
def yPK_count : MethodName := ⟨R_PK, "count", "(I)I"⟩
abbrev wPK_count : List Cond := .code yPK_count cPK_count 2 (some .int) :: GW
theorem kPK_count : Cond.code yPK_count cPK_count 2 (some .int) ∈ GW := gwm 654 (by decide +kernel) (by decide +kernel)
theorem pPK_count : yPK_count.cls ≠ "java/lang/invoke/MethodHandle" ∧ yPK_count.cls ≠ "java/lang/invoke/VarHandle" ∧ (parseMethodDescriptor yPK_count.desc).map (fun d => d.parameters.length) = some 1 := by decide +kernel
theorem qPK_count : Cond.instanceMethod yPK_count ∈ GW := gwm 652 (by decide +kernel) (by decide +kernel)
theorem iPK_count : Cond.initialized yPK_count.cls ∈ GW := gwm 1 (by decide +kernel) (by decide +kernel)
abbrev cPK_mark : ByteArray := prog_1_method_6_code
def yPK_mark : MethodName := ⟨R_PK, "mark", "()I"⟩
abbrev wPK_mark : List Cond := .code yPK_mark cPK_mark 1 (some .int) :: GW
theorem kPK_mark : Cond.code yPK_mark cPK_mark 1 (some .int) ∈ GW := gwm 669 (by decide +kernel) (by decide +kernel)
theorem pPK_mark : yPK_mark.cls ≠ "java/lang/invoke/MethodHandle" ∧ yPK_mark.cls ≠ "java/lang/invoke/VarHandle" ∧ (parseMethodDescriptor yPK_mark.desc).map (fun d => d.parameters.length) = some 0 := by decide +kernel
theorem qPK_mark : Cond.instanceMethod yPK_mark ∈ GW := gwm 667 (by decide +kernel) (by decide +kernel)
theorem iPK_mark : Cond.initialized yPK_mark.cls ∈ GW := gwm 1 (by decide +kernel) (by decide +kernel)
abbrev cPK_repair : ByteArray := prog_1_method_7_code
def yPK_repair : MethodName := ⟨R_PK, "repair", "(I)I"⟩
abbrev wPK_repair : List Cond := .code yPK_repair cPK_repair 3 (some .int) :: GW
theorem kPK_repair : Cond.code yPK_repair cPK_repair 3 (some .int) ∈ GW := gwm 745 (by decide +kernel) (by decide +kernel)
theorem pPK_repair : yPK_repair.cls ≠ "java/lang/invoke/MethodHandle" ∧ yPK_repair.cls ≠ "java/lang/invoke/VarHandle" ∧ (parseMethodDescriptor yPK_repair.desc).map (fun d => d.parameters.length) = some 1 := by decide +kernel
theorem qPK_repair : Cond.instanceMethod yPK_repair ∈ GW := gwm 743 (by decide +kernel) (by decide +kernel)
theorem iPK_repair : Cond.initialized yPK_repair.cls ∈ GW := gwm 1 (by decide +kernel) (by decide +kernel)
abbrev cPK_told : ByteArray := prog_1_method_2_code
def yPK_told : MethodName := ⟨R_PK, "told", "(I)Z"⟩
abbrev wPK_told : List Cond := .code yPK_told cPK_told 3 (some .boolean) :: GW
theorem kPK_told : Cond.code yPK_told cPK_told 3 (some .boolean) ∈ GW := gwm 302 (by decide +kernel) (by decide +kernel)
theorem pPK_told : yPK_told.cls ≠ "java/lang/invoke/MethodHandle" ∧ yPK_told.cls ≠ "java/lang/invoke/VarHandle" ∧ (parseMethodDescriptor yPK_told.desc).map (fun d => d.parameters.length) = some 1 := by decide +kernel
theorem qPK_told : Cond.instanceMethod yPK_told ∈ GW := gwm 300 (by decide +kernel) (by decide +kernel)
theorem iPK_told : Cond.initialized yPK_told.cls ∈ GW := gwm 1 (by decide +kernel) (by decide +kernel)
abbrev cPK_update : ByteArray := prog_1_method_3_code
def yPK_update : MethodName := ⟨R_PK, "update", "(IZ)Z"⟩
abbrev wPK_update : List Cond := .code yPK_update cPK_update 6 (some .boolean) :: GW
theorem kPK_update : Cond.code yPK_update cPK_update 6 (some .boolean) ∈ GW := gwm 451 (by decide +kernel) (by decide +kernel)
theorem pPK_update : yPK_update.cls ≠ "java/lang/invoke/MethodHandle" ∧ yPK_update.cls ≠ "java/lang/invoke/VarHandle" ∧ (parseMethodDescriptor yPK_update.desc).map (fun d => d.parameters.length) = some 2 := by decide +kernel
theorem qPK_update : Cond.instanceMethod yPK_update ∈ GW := gwm 449 (by decide +kernel) (by decide +kernel)
theorem iPK_update : Cond.initialized yPK_update.cls ∈ GW := gwm 1 (by decide +kernel) (by decide +kernel)
abbrev cPK_row : ByteArray := prog_1_method_8_code
def yPK_row : MethodName := ⟨R_PK, "row", "(I)I"⟩
abbrev wPK_row : List Cond := .code yPK_row cPK_row 2 (some .int) :: GW
theorem kPK_row : Cond.code yPK_row cPK_row 2 (some .int) ∈ GW := gwm 564 (by decide +kernel) (by decide +kernel)
theorem pPK_row : yPK_row.cls ≠ "java/lang/invoke/MethodHandle" ∧ yPK_row.cls ≠ "java/lang/invoke/VarHandle" ∧ (parseMethodDescriptor yPK_row.desc).map (fun d => d.parameters.length) = some 1 := by decide +kernel
theorem qPK_row : Cond.instanceMethod yPK_row ∈ GW := gwm 562 (by decide +kernel) (by decide +kernel)
theorem iPK_row : Cond.initialized yPK_row.cls ∈ GW := gwm 1 (by decide +kernel) (by decide +kernel)
abbrev cPK_part : ByteArray := prog_1_method_9_code
def yPK_part : MethodName := ⟨R_PK, "part", "(I)I"⟩
abbrev wPK_part : List Cond := .code yPK_part cPK_part 2 (some .int) :: GW
theorem kPK_part : Cond.code yPK_part cPK_part 2 (some .int) ∈ GW := gwm 593 (by decide +kernel) (by decide +kernel)
theorem pPK_part : yPK_part.cls ≠ "java/lang/invoke/MethodHandle" ∧ yPK_part.cls ≠ "java/lang/invoke/VarHandle" ∧ (parseMethodDescriptor yPK_part.desc).map (fun d => d.parameters.length) = some 1 := by decide +kernel
theorem qPK_part : Cond.instanceMethod yPK_part ∈ GW := gwm 591 (by decide +kernel) (by decide +kernel)
theorem iPK_part : Cond.initialized yPK_part.cls ∈ GW := gwm 1 (by decide +kernel) (by decide +kernel)
abbrev cPK_storage : ByteArray := prog_1_method_10_code
def yPK_storage : MethodName := ⟨R_PK, "storage", "()I"⟩
abbrev wPK_storage : List Cond := .code yPK_storage cPK_storage 1 (some .int) :: GW
theorem kPK_storage : Cond.code yPK_storage cPK_storage 1 (some .int) ∈ GW := gwm 616 (by decide +kernel) (by decide +kernel)
theorem pPK_storage : yPK_storage.cls ≠ "java/lang/invoke/MethodHandle" ∧ yPK_storage.cls ≠ "java/lang/invoke/VarHandle" ∧ (parseMethodDescriptor yPK_storage.desc).map (fun d => d.parameters.length) = some 0 := by decide +kernel
theorem qPK_storage : Cond.instanceMethod yPK_storage ∈ GW := gwm 614 (by decide +kernel) (by decide +kernel)
theorem iPK_storage : Cond.initialized yPK_storage.cls ∈ GW := gwm 1 (by decide +kernel) (by decide +kernel)
abbrev cPK_several : ByteArray := prog_1_method_12_code
def yPK_several : MethodName := ⟨R_PK, "several", "(II)I"⟩
abbrev wPK_several : List Cond := .code yPK_several cPK_several 7 (some .int) :: GW
theorem kPK_several : Cond.code yPK_several cPK_several 7 (some .int) ∈ GW := gwm 769 (by decide +kernel) (by decide +kernel)
theorem pPK_several : yPK_several.cls ≠ "java/lang/invoke/MethodHandle" ∧ yPK_several.cls ≠ "java/lang/invoke/VarHandle" ∧ (parseMethodDescriptor yPK_several.desc).map (fun d => d.parameters.length) = some 2 := by decide +kernel
theorem qPK_several : Cond.instanceMethod yPK_several ∈ GW := gwm 767 (by decide +kernel) (by decide +kernel)
theorem iPK_several : Cond.initialized yPK_several.cls ∈ GW := gwm 1 (by decide +kernel) (by decide +kernel)
abbrev cMd_modulo : ByteArray := prog_14_method_2_code
def yMd_modulo : MethodName := ⟨R_Md, "modulo", "(I)I"⟩
abbrev wMd_modulo : List Cond := .code yMd_modulo cMd_modulo 1 (some .int) :: GW
theorem kMd_modulo : Cond.code yMd_modulo cMd_modulo 1 (some .int) ∈ GW := gwm 794 (by decide +kernel) (by decide +kernel)
theorem pMd_modulo : yMd_modulo.cls ≠ "java/lang/invoke/MethodHandle" ∧ yMd_modulo.cls ≠ "java/lang/invoke/VarHandle" ∧ (parseMethodDescriptor yMd_modulo.desc).map (fun d => d.parameters.length) = some 1 := by decide +kernel
theorem qMd_modulo : Cond.static yMd_modulo ∈ GW := gwm 793 (by decide +kernel) (by decide +kernel)
theorem iMd_modulo : Cond.initialized yMd_modulo.cls ∈ GW := gwm 15 (by decide +kernel) (by decide +kernel)
abbrev cMd_thrown : ByteArray := prog_14_method_3_code
def yMd_thrown : MethodName := ⟨R_Md, "thrown", "()I"⟩
abbrev wMd_thrown : List Cond := .code yMd_thrown cMd_thrown 1 (some .int) :: GW
theorem kMd_thrown : Cond.code yMd_thrown cMd_thrown 1 (some .int) ∈ GW := gwm 893 (by decide +kernel) (by decide +kernel)
theorem pMd_thrown : yMd_thrown.cls ≠ "java/lang/invoke/MethodHandle" ∧ yMd_thrown.cls ≠ "java/lang/invoke/VarHandle" ∧ (parseMethodDescriptor yMd_thrown.desc).map (fun d => d.parameters.length) = some 0 := by decide +kernel
theorem qMd_thrown : Cond.instanceMethod yMd_thrown ∈ GW := gwm 891 (by decide +kernel) (by decide +kernel)
theorem iMd_thrown : Cond.initialized yMd_thrown.cls ∈ GW := gwm 15 (by decide +kernel) (by decide +kernel)
abbrev cMd_fail : ByteArray := prog_14_method_4_code
def yMd_fail : MethodName := ⟨R_Md, "fail", "(I)I"⟩
abbrev wMd_fail : List Cond := .code yMd_fail cMd_fail 2 (some .int) :: GW
theorem kMd_fail : Cond.code yMd_fail cMd_fail 2 (some .int) ∈ GW := gwm 1005 (by decide +kernel) (by decide +kernel)
theorem pMd_fail : yMd_fail.cls ≠ "java/lang/invoke/MethodHandle" ∧ yMd_fail.cls ≠ "java/lang/invoke/VarHandle" ∧ (parseMethodDescriptor yMd_fail.desc).map (fun d => d.parameters.length) = some 1 := by decide +kernel
theorem qMd_fail : Cond.instanceMethod yMd_fail ∈ GW := gwm 1004 (by decide +kernel) (by decide +kernel)
theorem iMd_fail : Cond.initialized yMd_fail.cls ∈ GW := gwm 15 (by decide +kernel) (by decide +kernel)
abbrev cMd_low : ByteArray := prog_14_method_5_code
def yMd_low : MethodName := ⟨R_Md, "low", "(I)I"⟩
abbrev wMd_low : List Cond := .code yMd_low cMd_low 2 (some .int) :: GW
theorem kMd_low : Cond.code yMd_low cMd_low 2 (some .int) ∈ GW := gwm 909 (by decide +kernel) (by decide +kernel)
theorem pMd_low : yMd_low.cls ≠ "java/lang/invoke/MethodHandle" ∧ yMd_low.cls ≠ "java/lang/invoke/VarHandle" ∧ (parseMethodDescriptor yMd_low.desc).map (fun d => d.parameters.length) = some 1 := by decide +kernel
theorem qMd_low : Cond.instanceMethod yMd_low ∈ GW := gwm 908 (by decide +kernel) (by decide +kernel)
theorem iMd_low : Cond.initialized yMd_low.cls ∈ GW := gwm 15 (by decide +kernel) (by decide +kernel)
abbrev cMd_plainRow : ByteArray := prog_14_method_6_code
def yMd_plainRow : MethodName := ⟨R_Md, "plainRow", "(I)I"⟩
abbrev wMd_plainRow : List Cond := .code yMd_plainRow cMd_plainRow 2 (some .int) :: GW
theorem kMd_plainRow : Cond.code yMd_plainRow cMd_plainRow 2 (some .int) ∈ GW := gwm 905 (by decide +kernel) (by decide +kernel)
theorem pMd_plainRow : yMd_plainRow.cls ≠ "java/lang/invoke/MethodHandle" ∧ yMd_plainRow.cls ≠ "java/lang/invoke/VarHandle" ∧ (parseMethodDescriptor yMd_plainRow.desc).map (fun d => d.parameters.length) = some 1 := by decide +kernel
theorem qMd_plainRow : Cond.instanceMethod yMd_plainRow ∈ GW := gwm 904 (by decide +kernel) (by decide +kernel)
theorem iMd_plainRow : Cond.initialized yMd_plainRow.cls ∈ GW := gwm 15 (by decide +kernel) (by decide +kernel)
abbrev cMd_folded : ByteArray := prog_14_method_7_code
def yMd_folded : MethodName := ⟨R_Md, "folded", "(III)I"⟩
abbrev wMd_folded : List Cond := .code yMd_folded cMd_folded 5 (some .int) :: GW
theorem kMd_folded : Cond.code yMd_folded cMd_folded 5 (some .int) ∈ GW := gwm 931 (by decide +kernel) (by decide +kernel)
theorem pMd_folded : yMd_folded.cls ≠ "java/lang/invoke/MethodHandle" ∧ yMd_folded.cls ≠ "java/lang/invoke/VarHandle" ∧ (parseMethodDescriptor yMd_folded.desc).map (fun d => d.parameters.length) = some 3 := by decide +kernel
theorem qMd_folded : Cond.static yMd_folded ∈ GW := gwm 930 (by decide +kernel) (by decide +kernel)
theorem iMd_folded : Cond.initialized yMd_folded.cls ∈ GW := gwm 15 (by decide +kernel) (by decide +kernel)
abbrev cMd_step : ByteArray := prog_14_method_8_code
def yMd_step : MethodName := ⟨R_Md, "step", "(IZ)I"⟩
abbrev wMd_step : List Cond := .code yMd_step cMd_step 2 (some .int) :: GW
theorem kMd_step : Cond.code yMd_step cMd_step 2 (some .int) ∈ GW := gwm 964 (by decide +kernel) (by decide +kernel)
theorem pMd_step : yMd_step.cls ≠ "java/lang/invoke/MethodHandle" ∧ yMd_step.cls ≠ "java/lang/invoke/VarHandle" ∧ (parseMethodDescriptor yMd_step.desc).map (fun d => d.parameters.length) = some 2 := by decide +kernel
theorem qMd_step : Cond.static yMd_step ∈ GW := gwm 963 (by decide +kernel) (by decide +kernel)
theorem iMd_step : Cond.initialized yMd_step.cls ∈ GW := gwm 15 (by decide +kernel) (by decide +kernel)
abbrev cMd_span : ByteArray := prog_14_method_9_code
def yMd_span : MethodName := ⟨R_Md, "span", "(I)I"⟩
abbrev wMd_span : List Cond := .code yMd_span cMd_span 1 (some .int) :: GW
theorem kMd_span : Cond.code yMd_span cMd_span 1 (some .int) ∈ GW := gwm 928 (by decide +kernel) (by decide +kernel)
theorem pMd_span : yMd_span.cls ≠ "java/lang/invoke/MethodHandle" ∧ yMd_span.cls ≠ "java/lang/invoke/VarHandle" ∧ (parseMethodDescriptor yMd_span.desc).map (fun d => d.parameters.length) = some 1 := by decide +kernel
theorem qMd_span : Cond.static yMd_span ∈ GW := gwm 927 (by decide +kernel) (by decide +kernel)
theorem iMd_span : Cond.initialized yMd_span.cls ∈ GW := gwm 15 (by decide +kernel) (by decide +kernel)
abbrev cMd_taggedRow : ByteArray := prog_14_method_10_code
def yMd_taggedRow : MethodName := ⟨R_Md, "taggedRow", "(III)I"⟩
abbrev wMd_taggedRow : List Cond := .code yMd_taggedRow cMd_taggedRow 4 (some .int) :: GW
theorem kMd_taggedRow : Cond.code yMd_taggedRow cMd_taggedRow 4 (some .int) ∈ GW := gwm 925 (by decide +kernel) (by decide +kernel)
theorem pMd_taggedRow : yMd_taggedRow.cls ≠ "java/lang/invoke/MethodHandle" ∧ yMd_taggedRow.cls ≠ "java/lang/invoke/VarHandle" ∧ (parseMethodDescriptor yMd_taggedRow.desc).map (fun d => d.parameters.length) = some 3 := by decide +kernel
theorem qMd_taggedRow : Cond.instanceMethod yMd_taggedRow ∈ GW := gwm 924 (by decide +kernel) (by decide +kernel)
theorem iMd_taggedRow : Cond.initialized yMd_taggedRow.cls ∈ GW := gwm 15 (by decide +kernel) (by decide +kernel)
abbrev cMd_tagOf : ByteArray := prog_14_method_11_code
def yMd_tagOf : MethodName := ⟨R_Md, "tagOf", "(III)I"⟩
abbrev wMd_tagOf : List Cond := .code yMd_tagOf cMd_tagOf 3 (some .int) :: GW
theorem kMd_tagOf : Cond.code yMd_tagOf cMd_tagOf 3 (some .int) ∈ GW := gwm 934 (by decide +kernel) (by decide +kernel)
theorem pMd_tagOf : yMd_tagOf.cls ≠ "java/lang/invoke/MethodHandle" ∧ yMd_tagOf.cls ≠ "java/lang/invoke/VarHandle" ∧ (parseMethodDescriptor yMd_tagOf.desc).map (fun d => d.parameters.length) = some 3 := by decide +kernel
theorem qMd_tagOf : Cond.static yMd_tagOf ∈ GW := gwm 933 (by decide +kernel) (by decide +kernel)
theorem iMd_tagOf : Cond.initialized yMd_tagOf.cls ∈ GW := gwm 15 (by decide +kernel) (by decide +kernel)
abbrev cMd_hits : ByteArray := prog_14_method_12_code
def yMd_hits : MethodName := ⟨R_Md, "hits", "(III)Z"⟩
abbrev wMd_hits : List Cond := .code yMd_hits cMd_hits 4 (some .boolean) :: GW
theorem kMd_hits : Cond.code yMd_hits cMd_hits 4 (some .boolean) ∈ GW := gwm 921 (by decide +kernel) (by decide +kernel)
theorem pMd_hits : yMd_hits.cls ≠ "java/lang/invoke/MethodHandle" ∧ yMd_hits.cls ≠ "java/lang/invoke/VarHandle" ∧ (parseMethodDescriptor yMd_hits.desc).map (fun d => d.parameters.length) = some 3 := by decide +kernel
theorem qMd_hits : Cond.instanceMethod yMd_hits ∈ GW := gwm 920 (by decide +kernel) (by decide +kernel)
theorem iMd_hits : Cond.initialized yMd_hits.cls ∈ GW := gwm 15 (by decide +kernel) (by decide +kernel)
abbrev cMd_hitBefore : ByteArray := prog_14_method_13_code
def yMd_hitBefore : MethodName := ⟨R_Md, "hitBefore", "(III)I"⟩
abbrev wMd_hitBefore : List Cond := .code yMd_hitBefore cMd_hitBefore 6 (some .int) :: GW
theorem kMd_hitBefore : Cond.code yMd_hitBefore cMd_hitBefore 6 (some .int) ∈ GW := gwm 917 (by decide +kernel) (by decide +kernel)
theorem pMd_hitBefore : yMd_hitBefore.cls ≠ "java/lang/invoke/MethodHandle" ∧ yMd_hitBefore.cls ≠ "java/lang/invoke/VarHandle" ∧ (parseMethodDescriptor yMd_hitBefore.desc).map (fun d => d.parameters.length) = some 3 := by decide +kernel
theorem qMd_hitBefore : Cond.instanceMethod yMd_hitBefore ∈ GW := gwm 916 (by decide +kernel) (by decide +kernel)
theorem iMd_hitBefore : Cond.initialized yMd_hitBefore.cls ∈ GW := gwm 15 (by decide +kernel) (by decide +kernel)
abbrev cMd_saidBy : ByteArray := prog_14_method_14_code
def yMd_saidBy : MethodName := ⟨R_Md, "saidBy", "(III)Z"⟩
abbrev wMd_saidBy : List Cond := .code yMd_saidBy cMd_saidBy 4 (some .boolean) :: GW
theorem kMd_saidBy : Cond.code yMd_saidBy cMd_saidBy 4 (some .boolean) ∈ GW := gwm 938 (by decide +kernel) (by decide +kernel)
theorem pMd_saidBy : yMd_saidBy.cls ≠ "java/lang/invoke/MethodHandle" ∧ yMd_saidBy.cls ≠ "java/lang/invoke/VarHandle" ∧ (parseMethodDescriptor yMd_saidBy.desc).map (fun d => d.parameters.length) = some 3 := by decide +kernel
theorem qMd_saidBy : Cond.instanceMethod yMd_saidBy ∈ GW := gwm 937 (by decide +kernel) (by decide +kernel)
theorem iMd_saidBy : Cond.initialized yMd_saidBy.cls ∈ GW := gwm 15 (by decide +kernel) (by decide +kernel)
abbrev cMd_total : ByteArray := prog_14_method_15_code
def yMd_total : MethodName := ⟨R_Md, "total", "(II)I"⟩
abbrev wMd_total : List Cond := .code yMd_total cMd_total 6 (some .int) :: GW
theorem kMd_total : Cond.code yMd_total cMd_total 6 (some .int) ∈ GW := gwm 942 (by decide +kernel) (by decide +kernel)
theorem pMd_total : yMd_total.cls ≠ "java/lang/invoke/MethodHandle" ∧ yMd_total.cls ≠ "java/lang/invoke/VarHandle" ∧ (parseMethodDescriptor yMd_total.desc).map (fun d => d.parameters.length) = some 2 := by decide +kernel
theorem qMd_total : Cond.instanceMethod yMd_total ∈ GW := gwm 941 (by decide +kernel) (by decide +kernel)
theorem iMd_total : Cond.initialized yMd_total.cls ∈ GW := gwm 15 (by decide +kernel) (by decide +kernel)
abbrev cMd_turn : ByteArray := prog_14_method_16_code
def yMd_turn : MethodName := ⟨R_Md, "turn", "(IZ)V"⟩
abbrev wMd_turn : List Cond := .code yMd_turn cMd_turn 3 none :: GW
theorem kMd_turn : Cond.code yMd_turn cMd_turn 3 none ∈ GW := gwm 980 (by decide +kernel) (by decide +kernel)
theorem pMd_turn : yMd_turn.cls ≠ "java/lang/invoke/MethodHandle" ∧ yMd_turn.cls ≠ "java/lang/invoke/VarHandle" ∧ (parseMethodDescriptor yMd_turn.desc).map (fun d => d.parameters.length) = some 2 := by decide +kernel
theorem qMd_turn : Cond.instanceMethod yMd_turn ∈ GW := gwm 979 (by decide +kernel) (by decide +kernel)
theorem iMd_turn : Cond.initialized yMd_turn.cls ∈ GW := gwm 15 (by decide +kernel) (by decide +kernel)
abbrev cMd_hasLoop : ByteArray := prog_14_method_17_code
def yMd_hasLoop : MethodName := ⟨R_Md, "hasLoop", "(I)Z"⟩
abbrev wMd_hasLoop : List Cond := .code yMd_hasLoop cMd_hasLoop 2 (some .boolean) :: GW
theorem kMd_hasLoop : Cond.code yMd_hasLoop cMd_hasLoop 2 (some .boolean) ∈ GW := gwm 950 (by decide +kernel) (by decide +kernel)
theorem pMd_hasLoop : yMd_hasLoop.cls ≠ "java/lang/invoke/MethodHandle" ∧ yMd_hasLoop.cls ≠ "java/lang/invoke/VarHandle" ∧ (parseMethodDescriptor yMd_hasLoop.desc).map (fun d => d.parameters.length) = some 1 := by decide +kernel
theorem qMd_hasLoop : Cond.instanceMethod yMd_hasLoop ∈ GW := gwm 949 (by decide +kernel) (by decide +kernel)
theorem iMd_hasLoop : Cond.initialized yMd_hasLoop.cls ∈ GW := gwm 15 (by decide +kernel) (by decide +kernel)
abbrev cMd_isLoop : ByteArray := prog_14_method_18_code
def yMd_isLoop : MethodName := ⟨R_Md, "isLoop", "(I)Z"⟩
abbrev wMd_isLoop : List Cond := .code yMd_isLoop cMd_isLoop 2 (some .boolean) :: GW
theorem kMd_isLoop : Cond.code yMd_isLoop cMd_isLoop 2 (some .boolean) ∈ GW := gwm 946 (by decide +kernel) (by decide +kernel)
theorem pMd_isLoop : yMd_isLoop.cls ≠ "java/lang/invoke/MethodHandle" ∧ yMd_isLoop.cls ≠ "java/lang/invoke/VarHandle" ∧ (parseMethodDescriptor yMd_isLoop.desc).map (fun d => d.parameters.length) = some 1 := by decide +kernel
theorem qMd_isLoop : Cond.instanceMethod yMd_isLoop ∈ GW := gwm 945 (by decide +kernel) (by decide +kernel)
theorem iMd_isLoop : Cond.initialized yMd_isLoop.cls ∈ GW := gwm 15 (by decide +kernel) (by decide +kernel)
abbrev cMd_mixedRow : ByteArray := prog_14_method_19_code
def yMd_mixedRow : MethodName := ⟨R_Md, "mixedRow", "(II)I"⟩
abbrev wMd_mixedRow : List Cond := .code yMd_mixedRow cMd_mixedRow 3 (some .int) :: GW
theorem kMd_mixedRow : Cond.code yMd_mixedRow cMd_mixedRow 3 (some .int) ∈ GW := gwm 913 (by decide +kernel) (by decide +kernel)
theorem pMd_mixedRow : yMd_mixedRow.cls ≠ "java/lang/invoke/MethodHandle" ∧ yMd_mixedRow.cls ≠ "java/lang/invoke/VarHandle" ∧ (parseMethodDescriptor yMd_mixedRow.desc).map (fun d => d.parameters.length) = some 2 := by decide +kernel
theorem qMd_mixedRow : Cond.instanceMethod yMd_mixedRow ∈ GW := gwm 912 (by decide +kernel) (by decide +kernel)
theorem iMd_mixedRow : Cond.initialized yMd_mixedRow.cls ∈ GW := gwm 15 (by decide +kernel) (by decide +kernel)
abbrev cMd_allot : ByteArray := prog_14_method_22_code
def yMd_allot : MethodName := ⟨R_Md, "allot", "(IIIZ)V"⟩
abbrev wMd_allot : List Cond := .code yMd_allot cMd_allot 7 none :: GW
theorem kMd_allot : Cond.code yMd_allot cMd_allot 7 none ∈ GW := gwm 972 (by decide +kernel) (by decide +kernel)
theorem pMd_allot : yMd_allot.cls ≠ "java/lang/invoke/MethodHandle" ∧ yMd_allot.cls ≠ "java/lang/invoke/VarHandle" ∧ (parseMethodDescriptor yMd_allot.desc).map (fun d => d.parameters.length) = some 4 := by decide +kernel
theorem qMd_allot : Cond.instanceMethod yMd_allot ∈ GW := gwm 971 (by decide +kernel) (by decide +kernel)
theorem iMd_allot : Cond.initialized yMd_allot.cls ∈ GW := gwm 15 (by decide +kernel) (by decide +kernel)
abbrev cMd_learnTagged : ByteArray := prog_14_method_21_code
def yMd_learnTagged : MethodName := ⟨R_Md, "learnTagged", "(IIZ)V"⟩
abbrev wMd_learnTagged : List Cond := .code yMd_learnTagged cMd_learnTagged 9 none :: GW
theorem kMd_learnTagged : Cond.code yMd_learnTagged cMd_learnTagged 9 none ∈ GW := gwm 968 (by decide +kernel) (by decide +kernel)
theorem pMd_learnTagged : yMd_learnTagged.cls ≠ "java/lang/invoke/MethodHandle" ∧ yMd_learnTagged.cls ≠ "java/lang/invoke/VarHandle" ∧ (parseMethodDescriptor yMd_learnTagged.desc).map (fun d => d.parameters.length) = some 3 := by decide +kernel
theorem qMd_learnTagged : Cond.instanceMethod yMd_learnTagged ∈ GW := gwm 967 (by decide +kernel) (by decide +kernel)
theorem iMd_learnTagged : Cond.initialized yMd_learnTagged.cls ∈ GW := gwm 15 (by decide +kernel) (by decide +kernel)
abbrev cMd_learnSums : ByteArray := prog_14_method_23_code
def yMd_learnSums : MethodName := ⟨R_Md, "learnSums", "(IIZ)V"⟩
abbrev wMd_learnSums : List Cond := .code yMd_learnSums cMd_learnSums 7 none :: GW
theorem kMd_learnSums : Cond.code yMd_learnSums cMd_learnSums 7 none ∈ GW := gwm 976 (by decide +kernel) (by decide +kernel)
theorem pMd_learnSums : yMd_learnSums.cls ≠ "java/lang/invoke/MethodHandle" ∧ yMd_learnSums.cls ≠ "java/lang/invoke/VarHandle" ∧ (parseMethodDescriptor yMd_learnSums.desc).map (fun d => d.parameters.length) = some 3 := by decide +kernel
theorem qMd_learnSums : Cond.instanceMethod yMd_learnSums ∈ GW := gwm 975 (by decide +kernel) (by decide +kernel)
theorem iMd_learnSums : Cond.initialized yMd_learnSums.cls ∈ GW := gwm 15 (by decide +kernel) (by decide +kernel)
abbrev cMd_clearLoop : ByteArray := prog_14_method_25_code
def yMd_clearLoop : MethodName := ⟨R_Md, "clearLoop", "(I)V"⟩
abbrev wMd_clearLoop : List Cond := .code yMd_clearLoop cMd_clearLoop 2 none :: GW
theorem kMd_clearLoop : Cond.code yMd_clearLoop cMd_clearLoop 2 none ∈ GW := gwm 988 (by decide +kernel) (by decide +kernel)
theorem pMd_clearLoop : yMd_clearLoop.cls ≠ "java/lang/invoke/MethodHandle" ∧ yMd_clearLoop.cls ≠ "java/lang/invoke/VarHandle" ∧ (parseMethodDescriptor yMd_clearLoop.desc).map (fun d => d.parameters.length) = some 1 := by decide +kernel
theorem qMd_clearLoop : Cond.instanceMethod yMd_clearLoop ∈ GW := gwm 987 (by decide +kernel) (by decide +kernel)
theorem iMd_clearLoop : Cond.initialized yMd_clearLoop.cls ∈ GW := gwm 15 (by decide +kernel) (by decide +kernel)
abbrev cMd_learnLoop : ByteArray := prog_14_method_24_code
def yMd_learnLoop : MethodName := ⟨R_Md, "learnLoop", "(IZ)V"⟩
abbrev wMd_learnLoop : List Cond := .code yMd_learnLoop cMd_learnLoop 6 none :: GW
theorem kMd_learnLoop : Cond.code yMd_learnLoop cMd_learnLoop 6 none ∈ GW := gwm 984 (by decide +kernel) (by decide +kernel)
theorem pMd_learnLoop : yMd_learnLoop.cls ≠ "java/lang/invoke/MethodHandle" ∧ yMd_learnLoop.cls ≠ "java/lang/invoke/VarHandle" ∧ (parseMethodDescriptor yMd_learnLoop.desc).map (fun d => d.parameters.length) = some 2 := by decide +kernel
theorem qMd_learnLoop : Cond.instanceMethod yMd_learnLoop ∈ GW := gwm 983 (by decide +kernel) (by decide +kernel)
theorem iMd_learnLoop : Cond.initialized yMd_learnLoop.cls ∈ GW := gwm 15 (by decide +kernel) (by decide +kernel)
abbrev cMd_behind : ByteArray := prog_14_method_27_code
def yMd_behind : MethodName := ⟨R_Md, "behind", "(IZ)I"⟩
abbrev wMd_behind : List Cond := .code yMd_behind cMd_behind 2 (some .int) :: GW
theorem kMd_behind : Cond.code yMd_behind cMd_behind 2 (some .int) ∈ GW := gwm 953 (by decide +kernel) (by decide +kernel)
theorem pMd_behind : yMd_behind.cls ≠ "java/lang/invoke/MethodHandle" ∧ yMd_behind.cls ≠ "java/lang/invoke/VarHandle" ∧ (parseMethodDescriptor yMd_behind.desc).map (fun d => d.parameters.length) = some 2 := by decide +kernel
theorem qMd_behind : Cond.static yMd_behind ∈ GW := gwm 952 (by decide +kernel) (by decide +kernel)
theorem iMd_behind : Cond.initialized yMd_behind.cls ∈ GW := gwm 15 (by decide +kernel) (by decide +kernel)
abbrev cMd_early : ByteArray := prog_14_method_30_code
def yMd_early : MethodName := ⟨R_Md, "early", "(Z)Z"⟩
abbrev wMd_early : List Cond := .code yMd_early cMd_early 3 (some .boolean) :: GW
theorem kMd_early : Cond.code yMd_early cMd_early 3 (some .boolean) ∈ GW := gwm 993 (by decide +kernel) (by decide +kernel)
theorem pMd_early : yMd_early.cls ≠ "java/lang/invoke/MethodHandle" ∧ yMd_early.cls ≠ "java/lang/invoke/VarHandle" ∧ (parseMethodDescriptor yMd_early.desc).map (fun d => d.parameters.length) = some 1 := by decide +kernel
theorem qMd_early : Cond.instanceMethod yMd_early ∈ GW := gwm 991 (by decide +kernel) (by decide +kernel)
theorem iMd_early : Cond.initialized yMd_early.cls ∈ GW := gwm 15 (by decide +kernel) (by decide +kernel)
abbrev cMd_history : ByteArray := prog_14_method_31_code
def yMd_history : MethodName := ⟨R_Md, "history", "()I"⟩
abbrev wMd_history : List Cond := .code yMd_history cMd_history 1 (some .int) :: GW
theorem kMd_history : Cond.code yMd_history cMd_history 1 (some .int) ∈ GW := gwm 997 (by decide +kernel) (by decide +kernel)
theorem pMd_history : yMd_history.cls ≠ "java/lang/invoke/MethodHandle" ∧ yMd_history.cls ≠ "java/lang/invoke/VarHandle" ∧ (parseMethodDescriptor yMd_history.desc).map (fun d => d.parameters.length) = some 0 := by decide +kernel
theorem qMd_history : Cond.instanceMethod yMd_history ∈ GW := gwm 995 (by decide +kernel) (by decide +kernel)
theorem iMd_history : Cond.initialized yMd_history.cls ∈ GW := gwm 15 (by decide +kernel) (by decide +kernel)
abbrev cMd_mark : ByteArray := prog_14_method_32_code
def yMd_mark : MethodName := ⟨R_Md, "mark", "()I"⟩
abbrev wMd_mark : List Cond := .code yMd_mark cMd_mark 1 (some .int) :: GW
theorem kMd_mark : Cond.code yMd_mark cMd_mark 1 (some .int) ∈ GW := gwm 1001 (by decide +kernel) (by decide +kernel)
theorem pMd_mark : yMd_mark.cls ≠ "java/lang/invoke/MethodHandle" ∧ yMd_mark.cls ≠ "java/lang/invoke/VarHandle" ∧ (parseMethodDescriptor yMd_mark.desc).map (fun d => d.parameters.length) = some 0 := by decide +kernel
theorem qMd_mark : Cond.instanceMethod yMd_mark ∈ GW := gwm 999 (by decide +kernel) (by decide +kernel)
theorem iMd_mark : Cond.initialized yMd_mark.cls ∈ GW := gwm 15 (by decide +kernel) (by decide +kernel)
abbrev cMd_repair : ByteArray := prog_14_method_33_code
def yMd_repair : MethodName := ⟨R_Md, "repair", "(I)I"⟩
abbrev wMd_repair : List Cond := .code yMd_repair cMd_repair 3 (some .int) :: GW
theorem kMd_repair : Cond.code yMd_repair cMd_repair 3 (some .int) ∈ GW := gwm 1009 (by decide +kernel) (by decide +kernel)
theorem pMd_repair : yMd_repair.cls ≠ "java/lang/invoke/MethodHandle" ∧ yMd_repair.cls ≠ "java/lang/invoke/VarHandle" ∧ (parseMethodDescriptor yMd_repair.desc).map (fun d => d.parameters.length) = some 1 := by decide +kernel
theorem qMd_repair : Cond.instanceMethod yMd_repair ∈ GW := gwm 1007 (by decide +kernel) (by decide +kernel)
theorem iMd_repair : Cond.initialized yMd_repair.cls ∈ GW := gwm 15 (by decide +kernel) (by decide +kernel)
abbrev cMd_count : ByteArray := prog_14_method_37_code
def yMd_count : MethodName := ⟨R_Md, "count", "(I)I"⟩
abbrev wMd_count : List Cond := .code yMd_count cMd_count 2 (some .int) :: GW
theorem kMd_count : Cond.code yMd_count cMd_count 2 (some .int) ∈ GW := gwm 1025 (by decide +kernel) (by decide +kernel)
theorem pMd_count : yMd_count.cls ≠ "java/lang/invoke/MethodHandle" ∧ yMd_count.cls ≠ "java/lang/invoke/VarHandle" ∧ (parseMethodDescriptor yMd_count.desc).map (fun d => d.parameters.length) = some 1 := by decide +kernel
theorem qMd_count : Cond.instanceMethod yMd_count ∈ GW := gwm 1023 (by decide +kernel) (by decide +kernel)
theorem iMd_count : Cond.initialized yMd_count.cls ∈ GW := gwm 15 (by decide +kernel) (by decide +kernel)
abbrev cMd_says : ByteArray := prog_14_method_20_code
def yMd_says : MethodName := ⟨R_Md, "says", "(II)Z"⟩
abbrev wMd_says : List Cond := .code yMd_says cMd_says 4 (some .boolean) :: GW
theorem kMd_says : Cond.code yMd_says cMd_says 4 (some .boolean) ∈ GW := gwm 901 (by decide +kernel) (by decide +kernel)
theorem pMd_says : yMd_says.cls ≠ "java/lang/invoke/MethodHandle" ∧ yMd_says.cls ≠ "java/lang/invoke/VarHandle" ∧ (parseMethodDescriptor yMd_says.desc).map (fun d => d.parameters.length) = some 2 := by decide +kernel
theorem qMd_says : Cond.instanceMethod yMd_says ∈ GW := gwm 900 (by decide +kernel) (by decide +kernel)
theorem iMd_says : Cond.initialized yMd_says.cls ∈ GW := gwm 15 (by decide +kernel) (by decide +kernel)
abbrev cMd_learn : ByteArray := prog_14_method_26_code
def yMd_learn : MethodName := ⟨R_Md, "learn", "(IIZ)V"⟩
abbrev wMd_learn : List Cond := .code yMd_learn cMd_learn 8 none :: GW
theorem kMd_learn : Cond.code yMd_learn cMd_learn 8 none ∈ GW := gwm 961 (by decide +kernel) (by decide +kernel)
theorem pMd_learn : yMd_learn.cls ≠ "java/lang/invoke/MethodHandle" ∧ yMd_learn.cls ≠ "java/lang/invoke/VarHandle" ∧ (parseMethodDescriptor yMd_learn.desc).map (fun d => d.parameters.length) = some 3 := by decide +kernel
theorem qMd_learn : Cond.instanceMethod yMd_learn ∈ GW := gwm 960 (by decide +kernel) (by decide +kernel)
theorem iMd_learn : Cond.initialized yMd_learn.cls ∈ GW := gwm 15 (by decide +kernel) (by decide +kernel)
abbrev cMd_told : ByteArray := prog_14_method_28_code
def yMd_told : MethodName := ⟨R_Md, "told", "(I)Z"⟩
abbrev wMd_told : List Cond := .code yMd_told cMd_told 3 (some .boolean) :: GW
theorem kMd_told : Cond.code yMd_told cMd_told 3 (some .boolean) ∈ GW := gwm 897 (by decide +kernel) (by decide +kernel)
theorem pMd_told : yMd_told.cls ≠ "java/lang/invoke/MethodHandle" ∧ yMd_told.cls ≠ "java/lang/invoke/VarHandle" ∧ (parseMethodDescriptor yMd_told.desc).map (fun d => d.parameters.length) = some 1 := by decide +kernel
theorem qMd_told : Cond.instanceMethod yMd_told ∈ GW := gwm 895 (by decide +kernel) (by decide +kernel)
theorem iMd_told : Cond.initialized yMd_told.cls ∈ GW := gwm 15 (by decide +kernel) (by decide +kernel)
abbrev cMd_update : ByteArray := prog_14_method_29_code
def yMd_update : MethodName := ⟨R_Md, "update", "(IZ)Z"⟩
abbrev wMd_update : List Cond := .code yMd_update cMd_update 7 (some .boolean) :: GW
theorem kMd_update : Cond.code yMd_update cMd_update 7 (some .boolean) ∈ GW := gwm 957 (by decide +kernel) (by decide +kernel)
theorem pMd_update : yMd_update.cls ≠ "java/lang/invoke/MethodHandle" ∧ yMd_update.cls ≠ "java/lang/invoke/VarHandle" ∧ (parseMethodDescriptor yMd_update.desc).map (fun d => d.parameters.length) = some 2 := by decide +kernel
theorem qMd_update : Cond.instanceMethod yMd_update ∈ GW := gwm 955 (by decide +kernel) (by decide +kernel)
theorem iMd_update : Cond.initialized yMd_update.cls ∈ GW := gwm 15 (by decide +kernel) (by decide +kernel)
abbrev cMd_row : ByteArray := prog_14_method_34_code
def yMd_row : MethodName := ⟨R_Md, "row", "(I)I"⟩
abbrev wMd_row : List Cond := .code yMd_row cMd_row 4 (some .int) :: GW
theorem kMd_row : Cond.code yMd_row cMd_row 4 (some .int) ∈ GW := gwm 1013 (by decide +kernel) (by decide +kernel)
theorem pMd_row : yMd_row.cls ≠ "java/lang/invoke/MethodHandle" ∧ yMd_row.cls ≠ "java/lang/invoke/VarHandle" ∧ (parseMethodDescriptor yMd_row.desc).map (fun d => d.parameters.length) = some 1 := by decide +kernel
theorem qMd_row : Cond.instanceMethod yMd_row ∈ GW := gwm 1011 (by decide +kernel) (by decide +kernel)
theorem iMd_row : Cond.initialized yMd_row.cls ∈ GW := gwm 15 (by decide +kernel) (by decide +kernel)
abbrev cMd_part : ByteArray := prog_14_method_35_code
def yMd_part : MethodName := ⟨R_Md, "part", "(I)I"⟩
abbrev wMd_part : List Cond := .code yMd_part cMd_part 2 (some .int) :: GW
theorem kMd_part : Cond.code yMd_part cMd_part 2 (some .int) ∈ GW := gwm 1017 (by decide +kernel) (by decide +kernel)
theorem pMd_part : yMd_part.cls ≠ "java/lang/invoke/MethodHandle" ∧ yMd_part.cls ≠ "java/lang/invoke/VarHandle" ∧ (parseMethodDescriptor yMd_part.desc).map (fun d => d.parameters.length) = some 1 := by decide +kernel
theorem qMd_part : Cond.instanceMethod yMd_part ∈ GW := gwm 1015 (by decide +kernel) (by decide +kernel)
theorem iMd_part : Cond.initialized yMd_part.cls ∈ GW := gwm 15 (by decide +kernel) (by decide +kernel)
abbrev cMd_storage : ByteArray := prog_14_method_36_code
def yMd_storage : MethodName := ⟨R_Md, "storage", "()I"⟩
abbrev wMd_storage : List Cond := .code yMd_storage cMd_storage 1 (some .int) :: GW
theorem kMd_storage : Cond.code yMd_storage cMd_storage 1 (some .int) ∈ GW := gwm 1021 (by decide +kernel) (by decide +kernel)
theorem pMd_storage : yMd_storage.cls ≠ "java/lang/invoke/MethodHandle" ∧ yMd_storage.cls ≠ "java/lang/invoke/VarHandle" ∧ (parseMethodDescriptor yMd_storage.desc).map (fun d => d.parameters.length) = some 0 := by decide +kernel
theorem qMd_storage : Cond.instanceMethod yMd_storage ∈ GW := gwm 1019 (by decide +kernel) (by decide +kernel)
theorem iMd_storage : Cond.initialized yMd_storage.cls ∈ GW := gwm 15 (by decide +kernel) (by decide +kernel)
abbrev cMd_several : ByteArray := prog_14_method_38_code
def yMd_several : MethodName := ⟨R_Md, "several", "(II)I"⟩
abbrev wMd_several : List Cond := .code yMd_several cMd_several 7 (some .int) :: GW
theorem kMd_several : Cond.code yMd_several cMd_several 7 (some .int) ∈ GW := gwm 1029 (by decide +kernel) (by decide +kernel)
theorem pMd_several : yMd_several.cls ≠ "java/lang/invoke/MethodHandle" ∧ yMd_several.cls ≠ "java/lang/invoke/VarHandle" ∧ (parseMethodDescriptor yMd_several.desc).map (fun d => d.parameters.length) = some 2 := by decide +kernel
theorem qMd_several : Cond.instanceMethod yMd_several ∈ GW := gwm 1027 (by decide +kernel) (by decide +kernel)
theorem iMd_several : Cond.initialized yMd_several.cls ∈ GW := gwm 15 (by decide +kernel) (by decide +kernel)
abbrev cMath_abs : ByteArray := prog_18_method_59_code
def yMath_abs : MethodName := ⟨R_Math, "abs", "(I)I"⟩
abbrev wMath_abs : List Cond := .code yMath_abs cMath_abs 1 (some .int) :: GW
theorem kMath_abs : Cond.code yMath_abs cMath_abs 1 (some .int) ∈ GW := gwm 521 (by decide +kernel) (by decide +kernel)
theorem pMath_abs : yMath_abs.cls ≠ "java/lang/invoke/MethodHandle" ∧ yMath_abs.cls ≠ "java/lang/invoke/VarHandle" ∧ (parseMethodDescriptor yMath_abs.desc).map (fun d => d.parameters.length) = some 1 := by decide +kernel
theorem qMath_abs : Cond.static yMath_abs ∈ GW := gwm 520 (by decide +kernel) (by decide +kernel)
theorem iMath_abs : Cond.initialized yMath_abs.cls ∈ GW := gwm 2 (by decide +kernel) (by decide +kernel)
