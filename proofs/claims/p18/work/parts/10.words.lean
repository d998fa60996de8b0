/-! Facts on fields, calls and new, laid by wip/gen/words.py. -/
theorem in_H : ∀ w ∈ u_ws RH FH 12, w ∈ hw_TS := hw_inl _ [89, 91, 93, 95, 97, 99, 101, 103, 105, 107, 109, 111] (by decide +kernel) (by decide +kernel)
theorem in_U : ∀ w ∈ u_ws RU FU 6, w ∈ hw_TS := hw_inl _ [64, 66, 68, 70, 72, 74] (by decide +kernel) (by decide +kernel)
theorem in_T : ∀ w ∈ u_ws RT FT 2, w ∈ hw_TS := hw_inl _ [39, 41] (by decide +kernel) (by decide +kernel)
theorem in_S : ∀ w ∈ u_ws RS FS 6, w ∈ hw_TS := hw_inl _ [340, 342, 344, 346, 348, 350] (by decide +kernel) (by decide +kernel)
theorem in_K : ∀ w ∈ u_ws RK FK 9, w ∈ hw_TS := hw_inl _ [397, 399, 401, 403, 405, 407, 409, 411, 413] (by decide +kernel) (by decide +kernel)
theorem in_M : ∀ w ∈ u_ws RM FM 31, w ∈ hw_TS := hw_inl _ [623, 625, 627, 629, 631, 633, 635, 637, 639, 641, 643, 645, 647, 649, 651, 653, 655, 657, 659, 661, 663, 665, 667, 669, 671, 673, 675, 677, 679, 681, 683] (by decide +kernel) (by decide +kernel)
theorem fT_9 : hw_F "TicketHouse$Text" 9 4 0 (.array .char) true := ⟨2, RT, FT, 2, tT, rfl, rfl, by decide, in_T, rfl, rfl, tT_ok, rfl, nT_ok, Or.inl (hw_in 36 (by decide +kernel) rfl)⟩
theorem fT_15 : hw_F "TicketHouse$Text" 15 4 1 .int false := ⟨2, RT, FT, 2, tT, rfl, rfl, by decide, in_T, rfl, rfl, tT_ok, rfl, nT_ok, Or.inl (hw_in 37 (by decide +kernel) rfl)⟩
theorem fH_58 : hw_F "TicketHouse" 58 4 1 .int false := ⟨2, RT, FT, 2, tT, rfl, rfl, by decide, in_T, rfl, rfl, tT_ok, rfl, nT_ok, Or.inr ⟨"TicketHouse", hw_in 38 (by decide +kernel) rfl⟩⟩
theorem fU_17 : hw_F "TicketHouse$User" 17 2 0 .int true := ⟨1, RU, FU, 6, tU, rfl, rfl, by decide, in_U, rfl, rfl, tU_ok, rfl, nU_ok, Or.inl (hw_in 55 (by decide +kernel) rfl)⟩
theorem fH_215 : hw_F "TicketHouse" 215 2 0 .int true := ⟨1, RU, FU, 6, tU, rfl, rfl, by decide, in_U, rfl, rfl, tU_ok, rfl, nU_ok, Or.inr ⟨"TicketHouse", hw_in 56 (by decide +kernel) rfl⟩⟩
theorem fU_11 : hw_F "TicketHouse$User" 11 2 1 (.array (.object "TicketHouse$Text")) true := ⟨1, RU, FU, 6, tU, rfl, rfl, by decide, in_U, rfl, rfl, tU_ok, rfl, nU_ok, Or.inl (hw_in 57 (by decide +kernel) rfl)⟩
theorem fH_77 : hw_F "TicketHouse" 77 2 1 (.array (.object "TicketHouse$Text")) true := ⟨1, RU, FU, 6, tU, rfl, rfl, by decide, in_U, rfl, rfl, tU_ok, rfl, nU_ok, Or.inr ⟨"TicketHouse", hw_in 58 (by decide +kernel) rfl⟩⟩
theorem fU_27 : hw_F "TicketHouse$User" 27 2 2 .boolean false := ⟨1, RU, FU, 6, tU, rfl, rfl, by decide, in_U, rfl, rfl, tU_ok, rfl, nU_ok, Or.inl (hw_in 59 (by decide +kernel) rfl)⟩
theorem fU_24 : hw_F "TicketHouse$User" 24 2 3 .int false := ⟨1, RU, FU, 6, tU, rfl, rfl, by decide, in_U, rfl, rfl, tU_ok, rfl, nU_ok, Or.inl (hw_in 60 (by decide +kernel) rfl)⟩
theorem fU_31 : hw_F "TicketHouse$User" 31 2 4 .int false := ⟨1, RU, FU, 6, tU, rfl, rfl, by decide, in_U, rfl, rfl, tU_ok, rfl, nU_ok, Or.inl (hw_in 61 (by decide +kernel) rfl)⟩
theorem fH_245 : hw_F "TicketHouse" 245 2 4 .int false := ⟨1, RU, FU, 6, tU, rfl, rfl, by decide, in_U, rfl, rfl, tU_ok, rfl, nU_ok, Or.inr ⟨"TicketHouse", hw_in 62 (by decide +kernel) rfl⟩⟩
theorem fU_34 : hw_F "TicketHouse$User" 34 2 5 .int false := ⟨1, RU, FU, 6, tU, rfl, rfl, by decide, in_U, rfl, rfl, tU_ok, rfl, nU_ok, Or.inl (hw_in 63 (by decide +kernel) rfl)⟩
theorem fH_11 : hw_F "TicketHouse" 11 0 0 (.array (.object "TicketHouse$User")) true := ⟨0, RH, FH, 12, tH, rfl, rfl, by decide, in_H, rfl, rfl, tH_ok, rfl, nH_ok, Or.inl (hw_in 77 (by decide +kernel) rfl)⟩
theorem fH_15 : hw_F "TicketHouse" 15 0 1 (.array .int) true := ⟨0, RH, FH, 12, tH, rfl, rfl, by decide, in_H, rfl, rfl, tH_ok, rfl, nH_ok, Or.inl (hw_in 78 (by decide +kernel) rfl)⟩
theorem fH_19 : hw_F "TicketHouse" 19 0 2 (.array .boolean) true := ⟨0, RH, FH, 12, tH, rfl, rfl, by decide, in_H, rfl, rfl, tH_ok, rfl, nH_ok, Or.inl (hw_in 79 (by decide +kernel) rfl)⟩
theorem fH_25 : hw_F "TicketHouse" 25 0 3 (.array (.object "TicketHouse$Session")) true := ⟨0, RH, FH, 12, tH, rfl, rfl, by decide, in_H, rfl, rfl, tH_ok, rfl, nH_ok, Or.inl (hw_in 80 (by decide +kernel) rfl)⟩
theorem fH_31 : hw_F "TicketHouse" 31 0 4 (.array (.object "TicketHouse$Ticket")) true := ⟨0, RH, FH, 12, tH, rfl, rfl, by decide, in_H, rfl, rfl, tH_ok, rfl, nH_ok, Or.inl (hw_in 81 (by decide +kernel) rfl)⟩
theorem fH_35 : hw_F "TicketHouse" 35 0 5 (.array .int) true := ⟨0, RH, FH, 12, tH, rfl, rfl, by decide, in_H, rfl, rfl, tH_ok, rfl, nH_ok, Or.inl (hw_in 82 (by decide +kernel) rfl)⟩
theorem fH_43 : hw_F "TicketHouse" 43 0 6 (.object "TicketHouse$Text") true := ⟨0, RH, FH, 12, tH, rfl, rfl, by decide, in_H, rfl, rfl, tH_ok, rfl, nH_ok, Or.inl (hw_in 83 (by decide +kernel) rfl)⟩
theorem fH_47 : hw_F "TicketHouse" 47 0 7 (.object "TicketHouse$Text") true := ⟨0, RH, FH, 12, tH, rfl, rfl, by decide, in_H, rfl, rfl, tH_ok, rfl, nH_ok, Or.inl (hw_in 84 (by decide +kernel) rfl)⟩
theorem fH_101 : hw_F "TicketHouse" 101 0 8 .int false := ⟨0, RH, FH, 12, tH, rfl, rfl, by decide, in_H, rfl, rfl, tH_ok, rfl, nH_ok, Or.inl (hw_in 85 (by decide +kernel) rfl)⟩
theorem fH_125 : hw_F "TicketHouse" 125 0 9 .int false := ⟨0, RH, FH, 12, tH, rfl, rfl, by decide, in_H, rfl, rfl, tH_ok, rfl, nH_ok, Or.inl (hw_in 86 (by decide +kernel) rfl)⟩
theorem fH_239 : hw_F "TicketHouse" 239 0 10 .int false := ⟨0, RH, FH, 12, tH, rfl, rfl, by decide, in_H, rfl, rfl, tH_ok, rfl, nH_ok, Or.inl (hw_in 87 (by decide +kernel) rfl)⟩
theorem fH_106 : hw_F "TicketHouse" 106 0 11 .int false := ⟨0, RH, FH, 12, tH, rfl, rfl, by decide, in_H, rfl, rfl, tH_ok, rfl, nH_ok, Or.inl (hw_in 88 (by decide +kernel) rfl)⟩
theorem fS_13 : hw_F "TicketHouse$Session" 13 9 0 .int true := ⟨3, RS, FS, 6, tS, rfl, rfl, by decide, in_S, rfl, rfl, tS_ok, rfl, nS_ok, Or.inl (hw_in 327 (by decide +kernel) rfl)⟩
theorem fH_117 : hw_F "TicketHouse" 117 9 0 .int true := ⟨3, RS, FS, 6, tS, rfl, rfl, by decide, in_S, rfl, rfl, tS_ok, rfl, nS_ok, Or.inr ⟨"TicketHouse", hw_in 328 (by decide +kernel) rfl⟩⟩
theorem fS_17 : hw_F "TicketHouse$Session" 17 9 1 (.object "TicketHouse$User") true := ⟨3, RS, FS, 6, tS, rfl, rfl, by decide, in_S, rfl, rfl, tS_ok, rfl, nS_ok, Or.inl (hw_in 329 (by decide +kernel) rfl)⟩
theorem fH_211 : hw_F "TicketHouse" 211 9 1 (.object "TicketHouse$User") true := ⟨3, RS, FS, 6, tS, rfl, rfl, by decide, in_S, rfl, rfl, tS_ok, rfl, nS_ok, Or.inr ⟨"TicketHouse", hw_in 330 (by decide +kernel) rfl⟩⟩
theorem fS_21 : hw_F "TicketHouse$Session" 21 9 2 .int true := ⟨3, RS, FS, 6, tS, rfl, rfl, by decide, in_S, rfl, rfl, tS_ok, rfl, nS_ok, Or.inl (hw_in 331 (by decide +kernel) rfl)⟩
theorem fH_220 : hw_F "TicketHouse" 220 9 2 .int true := ⟨3, RS, FS, 6, tS, rfl, rfl, by decide, in_S, rfl, rfl, tS_ok, rfl, nS_ok, Or.inr ⟨"TicketHouse", hw_in 332 (by decide +kernel) rfl⟩⟩
theorem fS_24 : hw_F "TicketHouse$Session" 24 9 3 .boolean true := ⟨3, RS, FS, 6, tS, rfl, rfl, by decide, in_S, rfl, rfl, tS_ok, rfl, nS_ok, Or.inl (hw_in 333 (by decide +kernel) rfl)⟩
theorem fH_223 : hw_F "TicketHouse" 223 9 3 .boolean true := ⟨3, RS, FS, 6, tS, rfl, rfl, by decide, in_S, rfl, rfl, tS_ok, rfl, nS_ok, Or.inr ⟨"TicketHouse", hw_in 334 (by decide +kernel) rfl⟩⟩
theorem fS_27 : hw_F "TicketHouse$Session" 27 9 4 .int false := ⟨3, RS, FS, 6, tS, rfl, rfl, by decide, in_S, rfl, rfl, tS_ok, rfl, nS_ok, Or.inl (hw_in 335 (by decide +kernel) rfl)⟩
theorem fH_150 : hw_F "TicketHouse" 150 9 4 .int false := ⟨3, RS, FS, 6, tS, rfl, rfl, by decide, in_S, rfl, rfl, tS_ok, rfl, nS_ok, Or.inr ⟨"TicketHouse", hw_in 336 (by decide +kernel) rfl⟩⟩
theorem fS_7 : hw_F "TicketHouse$Session" 7 9 5 .boolean false := ⟨3, RS, FS, 6, tS, rfl, rfl, by decide, in_S, rfl, rfl, tS_ok, rfl, nS_ok, Or.inl (hw_in 337 (by decide +kernel) rfl)⟩
theorem fK_39 : hw_F "TicketHouse$Ticket" 39 9 5 .boolean false := ⟨3, RS, FS, 6, tS, rfl, rfl, by decide, in_S, rfl, rfl, tS_ok, rfl, nS_ok, Or.inr ⟨"TicketHouse", hw_in 338 (by decide +kernel) rfl⟩⟩
theorem fH_145 : hw_F "TicketHouse" 145 9 5 .boolean false := ⟨3, RS, FS, 6, tS, rfl, rfl, by decide, in_S, rfl, rfl, tS_ok, rfl, nS_ok, Or.inr ⟨"TicketHouse", hw_in 339 (by decide +kernel) rfl⟩⟩
theorem fK_9 : hw_F "TicketHouse$Ticket" 9 11 0 .int true := ⟨4, RK, FK, 9, tK, rfl, rfl, by decide, in_K, rfl, rfl, tK_ok, rfl, nK_ok, Or.inl (hw_in 379 (by decide +kernel) rfl)⟩
theorem fH_138 : hw_F "TicketHouse" 138 11 0 .int true := ⟨4, RK, FK, 9, tK, rfl, rfl, by decide, in_K, rfl, rfl, tK_ok, rfl, nK_ok, Or.inr ⟨"TicketHouse", hw_in 380 (by decide +kernel) rfl⟩⟩
theorem fK_15 : hw_F "TicketHouse$Ticket" 15 11 1 .int true := ⟨4, RK, FK, 9, tK, rfl, rfl, by decide, in_K, rfl, rfl, tK_ok, rfl, nK_ok, Or.inl (hw_in 381 (by decide +kernel) rfl)⟩
theorem fH_157 : hw_F "TicketHouse" 157 11 1 .int true := ⟨4, RK, FK, 9, tK, rfl, rfl, by decide, in_K, rfl, rfl, tK_ok, rfl, nK_ok, Or.inr ⟨"TicketHouse", hw_in 382 (by decide +kernel) rfl⟩⟩
theorem fK_18 : hw_F "TicketHouse$Ticket" 18 11 2 (.object "TicketHouse$Session") true := ⟨4, RK, FK, 9, tK, rfl, rfl, by decide, in_K, rfl, rfl, tK_ok, rfl, nK_ok, Or.inl (hw_in 383 (by decide +kernel) rfl)⟩
theorem fH_167 : hw_F "TicketHouse" 167 11 2 (.object "TicketHouse$Session") true := ⟨4, RK, FK, 9, tK, rfl, rfl, by decide, in_K, rfl, rfl, tK_ok, rfl, nK_ok, Or.inr ⟨"TicketHouse", hw_in 384 (by decide +kernel) rfl⟩⟩
theorem fK_22 : hw_F "TicketHouse$Ticket" 22 11 3 .int true := ⟨4, RK, FK, 9, tK, rfl, rfl, by decide, in_K, rfl, rfl, tK_ok, rfl, nK_ok, Or.inl (hw_in 385 (by decide +kernel) rfl)⟩
theorem fH_226 : hw_F "TicketHouse" 226 11 3 .int true := ⟨4, RK, FK, 9, tK, rfl, rfl, by decide, in_K, rfl, rfl, tK_ok, rfl, nK_ok, Or.inr ⟨"TicketHouse", hw_in 386 (by decide +kernel) rfl⟩⟩
theorem fK_25 : hw_F "TicketHouse$Ticket" 25 11 4 .int true := ⟨4, RK, FK, 9, tK, rfl, rfl, by decide, in_K, rfl, rfl, tK_ok, rfl, nK_ok, Or.inl (hw_in 387 (by decide +kernel) rfl)⟩
theorem fH_229 : hw_F "TicketHouse" 229 11 4 .int true := ⟨4, RK, FK, 9, tK, rfl, rfl, by decide, in_K, rfl, rfl, tK_ok, rfl, nK_ok, Or.inr ⟨"TicketHouse", hw_in 388 (by decide +kernel) rfl⟩⟩
theorem fK_28 : hw_F "TicketHouse$Ticket" 28 11 5 (.object "TicketHouse$Ticket") true := ⟨4, RK, FK, 9, tK, rfl, rfl, by decide, in_K, rfl, rfl, tK_ok, rfl, nK_ok, Or.inl (hw_in 389 (by decide +kernel) rfl)⟩
theorem fH_232 : hw_F "TicketHouse" 232 11 5 (.object "TicketHouse$Ticket") true := ⟨4, RK, FK, 9, tK, rfl, rfl, by decide, in_K, rfl, rfl, tK_ok, rfl, nK_ok, Or.inr ⟨"TicketHouse", hw_in 390 (by decide +kernel) rfl⟩⟩
theorem fK_32 : hw_F "TicketHouse$Ticket" 32 11 6 .int true := ⟨4, RK, FK, 9, tK, rfl, rfl, by decide, in_K, rfl, rfl, tK_ok, rfl, nK_ok, Or.inl (hw_in 391 (by decide +kernel) rfl)⟩
theorem fH_236 : hw_F "TicketHouse" 236 11 6 .int true := ⟨4, RK, FK, 9, tK, rfl, rfl, by decide, in_K, rfl, rfl, tK_ok, rfl, nK_ok, Or.inr ⟨"TicketHouse", hw_in 392 (by decide +kernel) rfl⟩⟩
theorem fK_48 : hw_F "TicketHouse$Ticket" 48 11 7 .boolean false := ⟨4, RK, FK, 9, tK, rfl, rfl, by decide, in_K, rfl, rfl, tK_ok, rfl, nK_ok, Or.inl (hw_in 393 (by decide +kernel) rfl)⟩
theorem fH_134 : hw_F "TicketHouse" 134 11 7 .boolean false := ⟨4, RK, FK, 9, tK, rfl, rfl, by decide, in_K, rfl, rfl, tK_ok, rfl, nK_ok, Or.inr ⟨"TicketHouse", hw_in 394 (by decide +kernel) rfl⟩⟩
theorem fK_35 : hw_F "TicketHouse$Ticket" 35 11 8 .boolean false := ⟨4, RK, FK, 9, tK, rfl, rfl, by decide, in_K, rfl, rfl, tK_ok, rfl, nK_ok, Or.inl (hw_in 395 (by decide +kernel) rfl)⟩
theorem fH_180 : hw_F "TicketHouse" 180 11 8 .boolean false := ⟨4, RK, FK, 9, tK, rfl, rfl, by decide, in_K, rfl, rfl, tK_ok, rfl, nK_ok, Or.inr ⟨"TicketHouse", hw_in 396 (by decide +kernel) rfl⟩⟩
theorem fM_87 : hw_F "TicketHouseModel" 87 20 0 .int false := ⟨5, RM, FM, 31, tM, rfl, rfl, by decide, in_M, rfl, rfl, tM_ok, rfl, nM_ok, Or.inl (hw_in 592 (by decide +kernel) rfl)⟩
theorem fM_97 : hw_F "TicketHouseModel" 97 20 1 .int false := ⟨5, RM, FM, 31, tM, rfl, rfl, by decide, in_M, rfl, rfl, tM_ok, rfl, nM_ok, Or.inl (hw_in 593 (by decide +kernel) rfl)⟩
theorem fM_7 : hw_F "TicketHouseModel" 7 20 2 (.array .int) true := ⟨5, RM, FM, 31, tM, rfl, rfl, by decide, in_M, rfl, rfl, tM_ok, rfl, nM_ok, Or.inl (hw_in 594 (by decide +kernel) rfl)⟩
theorem fM_94 : hw_F "TicketHouseModel" 94 20 3 .int false := ⟨5, RM, FM, 31, tM, rfl, rfl, by decide, in_M, rfl, rfl, tM_ok, rfl, nM_ok, Or.inl (hw_in 595 (by decide +kernel) rfl)⟩
theorem fM_13 : hw_F "TicketHouseModel" 13 20 4 (.array .int) true := ⟨5, RM, FM, 31, tM, rfl, rfl, by decide, in_M, rfl, rfl, tM_ok, rfl, nM_ok, Or.inl (hw_in 596 (by decide +kernel) rfl)⟩
theorem fM_16 : hw_F "TicketHouseModel" 16 20 5 (.array .int) true := ⟨5, RM, FM, 31, tM, rfl, rfl, by decide, in_M, rfl, rfl, tM_ok, rfl, nM_ok, Or.inl (hw_in 597 (by decide +kernel) rfl)⟩
theorem fM_19 : hw_F "TicketHouseModel" 19 20 6 (.array .boolean) true := ⟨5, RM, FM, 31, tM, rfl, rfl, by decide, in_M, rfl, rfl, tM_ok, rfl, nM_ok, Or.inl (hw_in 598 (by decide +kernel) rfl)⟩
theorem fM_23 : hw_F "TicketHouseModel" 23 20 7 (.array .int) true := ⟨5, RM, FM, 31, tM, rfl, rfl, by decide, in_M, rfl, rfl, tM_ok, rfl, nM_ok, Or.inl (hw_in 599 (by decide +kernel) rfl)⟩
theorem fM_26 : hw_F "TicketHouseModel" 26 20 8 (.array .int) true := ⟨5, RM, FM, 31, tM, rfl, rfl, by decide, in_M, rfl, rfl, tM_ok, rfl, nM_ok, Or.inl (hw_in 600 (by decide +kernel) rfl)⟩
theorem fM_29 : hw_F "TicketHouseModel" 29 20 9 (.array .int) true := ⟨5, RM, FM, 31, tM, rfl, rfl, by decide, in_M, rfl, rfl, tM_ok, rfl, nM_ok, Or.inl (hw_in 601 (by decide +kernel) rfl)⟩
theorem fM_32 : hw_F "TicketHouseModel" 32 20 10 (.array .int) true := ⟨5, RM, FM, 31, tM, rfl, rfl, by decide, in_M, rfl, rfl, tM_ok, rfl, nM_ok, Or.inl (hw_in 602 (by decide +kernel) rfl)⟩
theorem fM_35 : hw_F "TicketHouseModel" 35 20 11 (.array .boolean) true := ⟨5, RM, FM, 31, tM, rfl, rfl, by decide, in_M, rfl, rfl, tM_ok, rfl, nM_ok, Or.inl (hw_in 603 (by decide +kernel) rfl)⟩
theorem fM_104 : hw_F "TicketHouseModel" 104 20 12 .int false := ⟨5, RM, FM, 31, tM, rfl, rfl, by decide, in_M, rfl, rfl, tM_ok, rfl, nM_ok, Or.inl (hw_in 604 (by decide +kernel) rfl)⟩
theorem fM_38 : hw_F "TicketHouseModel" 38 20 13 (.array .int) true := ⟨5, RM, FM, 31, tM, rfl, rfl, by decide, in_M, rfl, rfl, tM_ok, rfl, nM_ok, Or.inl (hw_in 605 (by decide +kernel) rfl)⟩
theorem fM_41 : hw_F "TicketHouseModel" 41 20 14 (.array .int) true := ⟨5, RM, FM, 31, tM, rfl, rfl, by decide, in_M, rfl, rfl, tM_ok, rfl, nM_ok, Or.inl (hw_in 606 (by decide +kernel) rfl)⟩
theorem fM_44 : hw_F "TicketHouseModel" 44 20 15 (.array .int) true := ⟨5, RM, FM, 31, tM, rfl, rfl, by decide, in_M, rfl, rfl, tM_ok, rfl, nM_ok, Or.inl (hw_in 607 (by decide +kernel) rfl)⟩
theorem fM_47 : hw_F "TicketHouseModel" 47 20 16 (.array .boolean) true := ⟨5, RM, FM, 31, tM, rfl, rfl, by decide, in_M, rfl, rfl, tM_ok, rfl, nM_ok, Or.inl (hw_in 608 (by decide +kernel) rfl)⟩
theorem fM_50 : hw_F "TicketHouseModel" 50 20 17 (.array .boolean) true := ⟨5, RM, FM, 31, tM, rfl, rfl, by decide, in_M, rfl, rfl, tM_ok, rfl, nM_ok, Or.inl (hw_in 609 (by decide +kernel) rfl)⟩
theorem fM_111 : hw_F "TicketHouseModel" 111 20 18 .int false := ⟨5, RM, FM, 31, tM, rfl, rfl, by decide, in_M, rfl, rfl, tM_ok, rfl, nM_ok, Or.inl (hw_in 610 (by decide +kernel) rfl)⟩
theorem fM_53 : hw_F "TicketHouseModel" 53 20 19 (.array .int) true := ⟨5, RM, FM, 31, tM, rfl, rfl, by decide, in_M, rfl, rfl, tM_ok, rfl, nM_ok, Or.inl (hw_in 611 (by decide +kernel) rfl)⟩
theorem fM_56 : hw_F "TicketHouseModel" 56 20 20 (.array .int) true := ⟨5, RM, FM, 31, tM, rfl, rfl, by decide, in_M, rfl, rfl, tM_ok, rfl, nM_ok, Or.inl (hw_in 612 (by decide +kernel) rfl)⟩
theorem fM_59 : hw_F "TicketHouseModel" 59 20 21 (.array .int) true := ⟨5, RM, FM, 31, tM, rfl, rfl, by decide, in_M, rfl, rfl, tM_ok, rfl, nM_ok, Or.inl (hw_in 613 (by decide +kernel) rfl)⟩
theorem fM_62 : hw_F "TicketHouseModel" 62 20 22 (.array .int) true := ⟨5, RM, FM, 31, tM, rfl, rfl, by decide, in_M, rfl, rfl, tM_ok, rfl, nM_ok, Or.inl (hw_in 614 (by decide +kernel) rfl)⟩
theorem fM_65 : hw_F "TicketHouseModel" 65 20 23 (.array .boolean) true := ⟨5, RM, FM, 31, tM, rfl, rfl, by decide, in_M, rfl, rfl, tM_ok, rfl, nM_ok, Or.inl (hw_in 615 (by decide +kernel) rfl)⟩
theorem fM_68 : hw_F "TicketHouseModel" 68 20 24 (.array .int) true := ⟨5, RM, FM, 31, tM, rfl, rfl, by decide, in_M, rfl, rfl, tM_ok, rfl, nM_ok, Or.inl (hw_in 616 (by decide +kernel) rfl)⟩
theorem fM_71 : hw_F "TicketHouseModel" 71 20 25 (.array .boolean) true := ⟨5, RM, FM, 31, tM, rfl, rfl, by decide, in_M, rfl, rfl, tM_ok, rfl, nM_ok, Or.inl (hw_in 617 (by decide +kernel) rfl)⟩
theorem fM_163 : hw_F "TicketHouseModel" 163 20 26 .int false := ⟨5, RM, FM, 31, tM, rfl, rfl, by decide, in_M, rfl, rfl, tM_ok, rfl, nM_ok, Or.inl (hw_in 618 (by decide +kernel) rfl)⟩
theorem fM_74 : hw_F "TicketHouseModel" 74 20 27 (.array .int) true := ⟨5, RM, FM, 31, tM, rfl, rfl, by decide, in_M, rfl, rfl, tM_ok, rfl, nM_ok, Or.inl (hw_in 619 (by decide +kernel) rfl)⟩
theorem fM_77 : hw_F "TicketHouseModel" 77 20 28 (.array .int) true := ⟨5, RM, FM, 31, tM, rfl, rfl, by decide, in_M, rfl, rfl, tM_ok, rfl, nM_ok, Or.inl (hw_in 620 (by decide +kernel) rfl)⟩
theorem fM_80 : hw_F "TicketHouseModel" 80 20 29 .int false := ⟨5, RM, FM, 31, tM, rfl, rfl, by decide, in_M, rfl, rfl, tM_ok, rfl, nM_ok, Or.inl (hw_in 621 (by decide +kernel) rfl)⟩
theorem fM_84 : hw_F "TicketHouseModel" 84 20 30 (.array .int) true := ⟨5, RM, FM, 31, tM, rfl, rfl, by decide, in_M, rfl, rfl, tM_ok, rfl, nM_ok, Or.inl (hw_in 622 (by decide +kernel) rfl)⟩
theorem iH_init : Cond.instanceMethod yH_init ∈ hw_TS := hw_in 19 (by decide +kernel) rfl
theorem iT_init : Cond.instanceMethod yT_init ∈ hw_TS := hw_in 33 (by decide +kernel) rfl
theorem iU_init : Cond.instanceMethod yU_init ∈ hw_TS := hw_in 49 (by decide +kernel) rfl
theorem iH_document : Cond.instanceMethod yH_document ∈ hw_TS := hw_in 115 (by decide +kernel) rfl
theorem vH_document : Cond.selects yH_document.cls yH_document yH_document ∈ hw_TS := hw_in 116 (by decide +kernel) rfl
theorem iT_at : Cond.instanceMethod yT_at ∈ hw_TS := hw_in 119 (by decide +kernel) rfl
theorem vT_at : Cond.selects yT_at.cls yT_at yT_at ∈ hw_TS := hw_in 120 (by decide +kernel) rfl
theorem iH_session : Cond.instanceMethod yH_session ∈ hw_TS := hw_in 123 (by decide +kernel) rfl
theorem vH_session : Cond.selects yH_session.cls yH_session yH_session ∈ hw_TS := hw_in 124 (by decide +kernel) rfl
theorem iH_findSession : Cond.instanceMethod yH_findSession ∈ hw_TS := hw_in 128 (by decide +kernel) rfl
theorem vH_findSession : Cond.selects yH_findSession.cls yH_findSession yH_findSession ∈ hw_TS := hw_sel (n := 12) 0 (by decide +kernel) rfl
theorem sH_oneIf : Cond.static yH_oneIf ∈ hw_TS := hw_in 131 (by decide +kernel) rfl
theorem iH_about : Cond.instanceMethod yH_about ∈ hw_TS := hw_in 134 (by decide +kernel) rfl
theorem vH_about : Cond.selects yH_about.cls yH_about yH_about ∈ hw_TS := hw_in 135 (by decide +kernel) rfl
theorem iH_findTicket : Cond.instanceMethod yH_findTicket ∈ hw_TS := hw_in 139 (by decide +kernel) rfl
theorem vH_findTicket : Cond.selects yH_findTicket.cls yH_findTicket yH_findTicket ∈ hw_TS := hw_sel (n := 12) 1 (by decide +kernel) rfl
theorem iK_isGood : Cond.instanceMethod yK_isGood ∈ hw_TS := hw_in 142 (by decide +kernel) rfl
theorem vK_isGood : Cond.selects yK_isGood.cls yK_isGood yK_isGood ∈ hw_TS := hw_in 143 (by decide +kernel) rfl
theorem iH_message : Cond.instanceMethod yH_message ∈ hw_TS := hw_in 146 (by decide +kernel) rfl
theorem vH_message : Cond.selects yH_message.cls yH_message yH_message ∈ hw_TS := hw_in 147 (by decide +kernel) rfl
theorem iH_house : Cond.instanceMethod yH_house ∈ hw_TS := hw_in 150 (by decide +kernel) rfl
theorem vH_house : Cond.selects yH_house.cls yH_house yH_house ∈ hw_TS := hw_in 151 (by decide +kernel) rfl
theorem iH_wrongTries : Cond.instanceMethod yH_wrongTries ∈ hw_TS := hw_in 155 (by decide +kernel) rfl
theorem vH_wrongTries : Cond.selects yH_wrongTries.cls yH_wrongTries yH_wrongTries ∈ hw_TS := hw_sel (n := 12) 2 (by decide +kernel) rfl
theorem iH_findUser : Cond.instanceMethod yH_findUser ∈ hw_TS := hw_in 159 (by decide +kernel) rfl
theorem vH_findUser : Cond.selects yH_findUser.cls yH_findUser yH_findUser ∈ hw_TS := hw_sel (n := 12) 3 (by decide +kernel) rfl
theorem sL_letter : Cond.static yL_letter ∈ hw_TS := hw_in 162 (by decide +kernel) rfl
theorem iH_letter : Cond.instanceMethod yH_letter ∈ hw_TS := hw_in 167 (by decide +kernel) rfl
theorem vH_letter : Cond.selects yH_letter.cls yH_letter yH_letter ∈ hw_TS := hw_in 168 (by decide +kernel) rfl
theorem iT_add : Cond.instanceMethod yT_add ∈ hw_TS := hw_in 254 (by decide +kernel) rfl
theorem vT_add : Cond.selects yT_add.cls yT_add yT_add ∈ hw_TS := hw_in 255 (by decide +kernel) rfl
theorem sL_text : Cond.static yL_text ∈ hw_TS := hw_in 258 (by decide +kernel) rfl
theorem iH_text : Cond.instanceMethod yH_text ∈ hw_TS := hw_in 261 (by decide +kernel) rfl
theorem vH_text : Cond.selects yH_text.cls yH_text yH_text ∈ hw_TS := hw_in 262 (by decide +kernel) rfl
theorem iT_become : Cond.instanceMethod yT_become ∈ hw_TS := hw_in 266 (by decide +kernel) rfl
theorem vT_become : Cond.selects yT_become.cls yT_become yT_become ∈ hw_TS := hw_in 267 (by decide +kernel) rfl
theorem iT_clear : Cond.instanceMethod yT_clear ∈ hw_TS := hw_in 270 (by decide +kernel) rfl
theorem vT_clear : Cond.selects yT_clear.cls yT_clear yT_clear ∈ hw_TS := hw_in 271 (by decide +kernel) rfl
theorem sL_password : Cond.static yL_password ∈ hw_TS := hw_in 276 (by decide +kernel) rfl
theorem iH_password : Cond.instanceMethod yH_password ∈ hw_TS := hw_in 279 (by decide +kernel) rfl
theorem vH_password : Cond.selects yH_password.cls yH_password yH_password ∈ hw_TS := hw_in 280 (by decide +kernel) rfl
theorem iU_setWord : Cond.instanceMethod yU_setWord ∈ hw_TS := hw_in 284 (by decide +kernel) rfl
theorem vU_setWord : Cond.selects yU_setWord.cls yU_setWord yU_setWord ∈ hw_TS := hw_in 285 (by decide +kernel) rfl
theorem sL_service : Cond.static yL_service ∈ hw_TS := hw_in 288 (by decide +kernel) rfl
theorem iH_service : Cond.instanceMethod yH_service ∈ hw_TS := hw_in 291 (by decide +kernel) rfl
theorem vH_service : Cond.selects yH_service.cls yH_service yH_service ∈ hw_TS := hw_in 292 (by decide +kernel) rfl
theorem sH_isService : Cond.static yH_isService ∈ hw_TS := hw_in 295 (by decide +kernel) rfl
theorem sL_callback : Cond.static yL_callback ∈ hw_TS := hw_in 299 (by decide +kernel) rfl
theorem iH_callback : Cond.instanceMethod yH_callback ∈ hw_TS := hw_in 302 (by decide +kernel) rfl
theorem vH_callback : Cond.selects yH_callback.cls yH_callback yH_callback ∈ hw_TS := hw_in 303 (by decide +kernel) rfl
theorem sL_login : Cond.static yL_login ∈ hw_TS := hw_in 307 (by decide +kernel) rfl
theorem iH_login : Cond.instanceMethod yH_login ∈ hw_TS := hw_in 310 (by decide +kernel) rfl
theorem vH_login : Cond.selects yH_login.cls yH_login yH_login ∈ hw_TS := hw_in 311 (by decide +kernel) rfl
theorem iU_attempt : Cond.instanceMethod yU_attempt ∈ hw_TS := hw_in 315 (by decide +kernel) rfl
theorem vU_attempt : Cond.selects yU_attempt.cls yU_attempt yU_attempt ∈ hw_TS := hw_in 316 (by decide +kernel) rfl
theorem iH_openSession : Cond.instanceMethod yH_openSession ∈ hw_TS := hw_in 320 (by decide +kernel) rfl
theorem vH_openSession : Cond.selects yH_openSession.cls yH_openSession yH_openSession ∈ hw_TS := hw_sel (n := 12) 5 (by decide +kernel) rfl
theorem iS_init : Cond.instanceMethod yS_init ∈ hw_TS := hw_in 324 (by decide +kernel) rfl
theorem sL_enter : Cond.static yL_enter ∈ hw_TS := hw_in 354 (by decide +kernel) rfl
theorem iH_enter : Cond.instanceMethod yH_enter ∈ hw_TS := hw_in 357 (by decide +kernel) rfl
theorem vH_enter : Cond.selects yH_enter.cls yH_enter yH_enter ∈ hw_TS := hw_in 358 (by decide +kernel) rfl
theorem iH_isEnabled : Cond.instanceMethod yH_isEnabled ∈ hw_TS := hw_in 362 (by decide +kernel) rfl
theorem vH_isEnabled : Cond.selects yH_isEnabled.cls yH_isEnabled yH_isEnabled ∈ hw_TS := hw_sel (n := 12) 6 (by decide +kernel) rfl
theorem iH_hasFlag : Cond.instanceMethod yH_hasFlag ∈ hw_TS := hw_in 366 (by decide +kernel) rfl
theorem vH_hasFlag : Cond.selects yH_hasFlag.cls yH_hasFlag yH_hasFlag ∈ hw_TS := hw_sel (n := 12) 7 (by decide +kernel) rfl
theorem iH_giveTicket : Cond.instanceMethod yH_giveTicket ∈ hw_TS := hw_in 372 (by decide +kernel) rfl
theorem vH_giveTicket : Cond.selects yH_giveTicket.cls yH_giveTicket yH_giveTicket ∈ hw_TS := hw_sel (n := 12) 8 (by decide +kernel) rfl
theorem iK_init : Cond.instanceMethod yK_init ∈ hw_TS := hw_in 376 (by decide +kernel) rfl
theorem sL_ticket : Cond.static yL_ticket ∈ hw_TS := hw_in 417 (by decide +kernel) rfl
theorem iH_ticket : Cond.instanceMethod yH_ticket ∈ hw_TS := hw_in 420 (by decide +kernel) rfl
theorem vH_ticket : Cond.selects yH_ticket.cls yH_ticket yH_ticket ∈ hw_TS := hw_in 421 (by decide +kernel) rfl
theorem sL_proxy : Cond.static yL_proxy ∈ hw_TS := hw_in 426 (by decide +kernel) rfl
theorem iH_proxy : Cond.instanceMethod yH_proxy ∈ hw_TS := hw_in 429 (by decide +kernel) rfl
theorem vH_proxy : Cond.selects yH_proxy.cls yH_proxy yH_proxy ∈ hw_TS := hw_in 430 (by decide +kernel) rfl
theorem sL_validate : Cond.static yL_validate ∈ hw_TS := hw_in 435 (by decide +kernel) rfl
theorem iH_validate : Cond.instanceMethod yH_validate ∈ hw_TS := hw_in 438 (by decide +kernel) rfl
theorem vH_validate : Cond.selects yH_validate.cls yH_validate yH_validate ∈ hw_TS := hw_in 439 (by decide +kernel) rfl
theorem iH_refuse : Cond.instanceMethod yH_refuse ∈ hw_TS := hw_in 444 (by decide +kernel) rfl
theorem vH_refuse : Cond.selects yH_refuse.cls yH_refuse yH_refuse ∈ hw_TS := hw_sel (n := 12) 9 (by decide +kernel) rfl
theorem iT_addAll : Cond.instanceMethod yT_addAll ∈ hw_TS := hw_in 448 (by decide +kernel) rfl
theorem vT_addAll : Cond.selects yT_addAll.cls yT_addAll yT_addAll ∈ hw_TS := hw_in 449 (by decide +kernel) rfl
theorem iT_addNumber : Cond.instanceMethod yT_addNumber ∈ hw_TS := hw_in 500 (by decide +kernel) rfl
theorem vT_addNumber : Cond.selects yT_addNumber.cls yT_addNumber yT_addNumber ∈ hw_TS := hw_in 501 (by decide +kernel) rfl
theorem iT_turnRound : Cond.instanceMethod yT_turnRound ∈ hw_TS := hw_in 505 (by decide +kernel) rfl
theorem vT_turnRound : Cond.selects yT_turnRound.cls yT_turnRound yT_turnRound ∈ hw_TS := hw_sel (n := 2) 10 (by decide +kernel) rfl
theorem iK_judge : Cond.instanceMethod yK_judge ∈ hw_TS := hw_in 510 (by decide +kernel) rfl
theorem vK_judge : Cond.selects yK_judge.cls yK_judge yK_judge ∈ hw_TS := hw_in 511 (by decide +kernel) rfl
theorem iH_grantFor : Cond.instanceMethod yH_grantFor ∈ hw_TS := hw_in 516 (by decide +kernel) rfl
theorem vH_grantFor : Cond.selects yH_grantFor.cls yH_grantFor yH_grantFor ∈ hw_TS := hw_sel (n := 12) 11 (by decide +kernel) rfl
theorem iH_writeAcceptance : Cond.instanceMethod yH_writeAcceptance ∈ hw_TS := hw_in 520 (by decide +kernel) rfl
theorem vH_writeAcceptance : Cond.selects yH_writeAcceptance.cls yH_writeAcceptance yH_writeAcceptance ∈ hw_TS := hw_sel (n := 12) 12 (by decide +kernel) rfl
theorem iT_addEscapedT : Cond.instanceMethod yT_addEscapedT ∈ hw_TS := hw_in 524 (by decide +kernel) rfl
theorem vT_addEscapedT : Cond.selects yT_addEscapedT.cls yT_addEscapedT yT_addEscapedT ∈ hw_TS := hw_in 525 (by decide +kernel) rfl
theorem iT_addEscapedC : Cond.instanceMethod yT_addEscapedC ∈ hw_TS := hw_in 529 (by decide +kernel) rfl
theorem vT_addEscapedC : Cond.selects yT_addEscapedC.cls yT_addEscapedC yT_addEscapedC ∈ hw_TS := hw_sel (n := 2) 13 (by decide +kernel) rfl
theorem iH_writeAttributes : Cond.instanceMethod yH_writeAttributes ∈ hw_TS := hw_in 538 (by decide +kernel) rfl
theorem vH_writeAttributes : Cond.selects yH_writeAttributes.cls yH_writeAttributes yH_writeAttributes ∈ hw_TS := hw_sel (n := 12) 14 (by decide +kernel) rfl
theorem iT_addElement : Cond.instanceMethod yT_addElement ∈ hw_TS := hw_in 543 (by decide +kernel) rfl
theorem vT_addElement : Cond.selects yT_addElement.cls yT_addElement yT_addElement ∈ hw_TS := hw_in 544 (by decide +kernel) rfl
theorem iH_writeChain : Cond.instanceMethod yH_writeChain ∈ hw_TS := hw_in 550 (by decide +kernel) rfl
theorem vH_writeChain : Cond.selects yH_writeChain.cls yH_writeChain yH_writeChain ∈ hw_TS := hw_sel (n := 12) 15 (by decide +kernel) rfl
theorem sL_logout : Cond.static yL_logout ∈ hw_TS := hw_in 554 (by decide +kernel) rfl
theorem iH_logout : Cond.instanceMethod yH_logout ∈ hw_TS := hw_in 557 (by decide +kernel) rfl
theorem vH_logout : Cond.selects yH_logout.cls yH_logout yH_logout ∈ hw_TS := hw_in 558 (by decide +kernel) rfl
theorem iH_end : Cond.instanceMethod yH_end ∈ hw_TS := hw_in 564 (by decide +kernel) rfl
theorem vH_end : Cond.selects yH_end.cls yH_end yH_end ∈ hw_TS := hw_sel (n := 12) 16 (by decide +kernel) rfl
theorem iH_tellOfEnd : Cond.instanceMethod yH_tellOfEnd ∈ hw_TS := hw_in 568 (by decide +kernel) rfl
theorem vH_tellOfEnd : Cond.selects yH_tellOfEnd.cls yH_tellOfEnd yH_tellOfEnd ∈ hw_TS := hw_sel (n := 12) 17 (by decide +kernel) rfl
theorem sL_tick : Cond.static yL_tick ∈ hw_TS := hw_in 571 (by decide +kernel) rfl
theorem iH_tick : Cond.instanceMethod yH_tick ∈ hw_TS := hw_in 574 (by decide +kernel) rfl
theorem vH_tick : Cond.selects yH_tick.cls yH_tick yH_tick ∈ hw_TS := hw_in 575 (by decide +kernel) rfl
theorem iU_unlockIfDue : Cond.instanceMethod yU_unlockIfDue ∈ hw_TS := hw_in 579 (by decide +kernel) rfl
theorem vU_unlockIfDue : Cond.selects yU_unlockIfDue.cls yU_unlockIfDue yU_unlockIfDue ∈ hw_TS := hw_in 580 (by decide +kernel) rfl
theorem iS_isOver : Cond.instanceMethod yS_isOver ∈ hw_TS := hw_in 583 (by decide +kernel) rfl
theorem vS_isOver : Cond.selects yS_isOver.cls yS_isOver yS_isOver ∈ hw_TS := hw_in 584 (by decide +kernel) rfl
theorem iM_init : Cond.instanceMethod yM_init ∈ hw_TS := hw_in 589 (by decide +kernel) rfl
theorem iM_letter : Cond.instanceMethod yM_letter ∈ hw_TS := hw_in 687 (by decide +kernel) rfl
theorem vM_letter : Cond.selects yM_letter.cls yM_letter yM_letter ∈ hw_TS := hw_in 688 (by decide +kernel) rfl
theorem sM_within : Cond.static yM_within ∈ hw_TS := hw_in 691 (by decide +kernel) rfl
theorem iM_text : Cond.instanceMethod yM_text ∈ hw_TS := hw_in 694 (by decide +kernel) rfl
theorem vM_text : Cond.selects yM_text.cls yM_text yM_text ∈ hw_TS := hw_in 695 (by decide +kernel) rfl
theorem iM_password : Cond.instanceMethod yM_password ∈ hw_TS := hw_in 698 (by decide +kernel) rfl
theorem vM_password : Cond.selects yM_password.cls yM_password yM_password ∈ hw_TS := hw_in 699 (by decide +kernel) rfl
theorem iM_service : Cond.instanceMethod yM_service ∈ hw_TS := hw_in 702 (by decide +kernel) rfl
theorem vM_service : Cond.selects yM_service.cls yM_service yM_service ∈ hw_TS := hw_in 703 (by decide +kernel) rfl
theorem iM_callback : Cond.instanceMethod yM_callback ∈ hw_TS := hw_in 706 (by decide +kernel) rfl
theorem vM_callback : Cond.selects yM_callback.cls yM_callback yM_callback ∈ hw_TS := hw_in 707 (by decide +kernel) rfl
theorem iM_login : Cond.instanceMethod yM_login ∈ hw_TS := hw_in 710 (by decide +kernel) rfl
theorem vM_login : Cond.selects yM_login.cls yM_login yM_login ∈ hw_TS := hw_in 711 (by decide +kernel) rfl
theorem iM_tries : Cond.instanceMethod yM_tries ∈ hw_TS := hw_in 715 (by decide +kernel) rfl
theorem vM_tries : Cond.selects yM_tries.cls yM_tries yM_tries ∈ hw_TS := hw_sel (n := 31) 18 (by decide +kernel) rfl
theorem iM_counting : Cond.instanceMethod yM_counting ∈ hw_TS := hw_in 719 (by decide +kernel) rfl
theorem vM_counting : Cond.selects yM_counting.cls yM_counting yM_counting ∈ hw_TS := hw_sel (n := 31) 19 (by decide +kernel) rfl
theorem iM_enter : Cond.instanceMethod yM_enter ∈ hw_TS := hw_in 722 (by decide +kernel) rfl
theorem vM_enter : Cond.selects yM_enter.cls yM_enter yM_enter ∈ hw_TS := hw_in 723 (by decide +kernel) rfl
theorem iM_enabled : Cond.instanceMethod yM_enabled ∈ hw_TS := hw_in 727 (by decide +kernel) rfl
theorem vM_enabled : Cond.selects yM_enabled.cls yM_enabled yM_enabled ∈ hw_TS := hw_sel (n := 31) 20 (by decide +kernel) rfl
theorem iM_give : Cond.instanceMethod yM_give ∈ hw_TS := hw_in 731 (by decide +kernel) rfl
theorem vM_give : Cond.selects yM_give.cls yM_give yM_give ∈ hw_TS := hw_sel (n := 31) 21 (by decide +kernel) rfl
theorem iM_ticket : Cond.instanceMethod yM_ticket ∈ hw_TS := hw_in 734 (by decide +kernel) rfl
theorem vM_ticket : Cond.selects yM_ticket.cls yM_ticket yM_ticket ∈ hw_TS := hw_in 735 (by decide +kernel) rfl
theorem iM_proxy : Cond.instanceMethod yM_proxy ∈ hw_TS := hw_in 738 (by decide +kernel) rfl
theorem vM_proxy : Cond.selects yM_proxy.cls yM_proxy yM_proxy ∈ hw_TS := hw_in 739 (by decide +kernel) rfl
theorem iM_good : Cond.instanceMethod yM_good ∈ hw_TS := hw_in 743 (by decide +kernel) rfl
theorem vM_good : Cond.selects yM_good.cls yM_good yM_good ∈ hw_TS := hw_sel (n := 31) 22 (by decide +kernel) rfl
theorem iM_validate : Cond.instanceMethod yM_validate ∈ hw_TS := hw_in 746 (by decide +kernel) rfl
theorem vM_validate : Cond.selects yM_validate.cls yM_validate yM_validate ∈ hw_TS := hw_in 747 (by decide +kernel) rfl
theorem iM_judged : Cond.instanceMethod yM_judged ∈ hw_TS := hw_in 751 (by decide +kernel) rfl
theorem vM_judged : Cond.selects yM_judged.cls yM_judged yM_judged ∈ hw_TS := hw_sel (n := 31) 23 (by decide +kernel) rfl
theorem iM_no : Cond.instanceMethod yM_no ∈ hw_TS := hw_in 755 (by decide +kernel) rfl
theorem vM_no : Cond.selects yM_no.cls yM_no yM_no ∈ hw_TS := hw_sel (n := 31) 24 (by decide +kernel) rfl
theorem iM_put : Cond.instanceMethod yM_put ∈ hw_TS := hw_in 759 (by decide +kernel) rfl
theorem vM_put : Cond.selects yM_put.cls yM_put yM_put ∈ hw_TS := hw_sel (n := 31) 25 (by decide +kernel) rfl
theorem iM_number : Cond.instanceMethod yM_number ∈ hw_TS := hw_in 763 (by decide +kernel) rfl
theorem vM_number : Cond.selects yM_number.cls yM_number yM_number ∈ hw_TS := hw_sel (n := 31) 26 (by decide +kernel) rfl
theorem iM_tag : Cond.instanceMethod yM_tag ∈ hw_TS := hw_in 768 (by decide +kernel) rfl
theorem vM_tag : Cond.selects yM_tag.cls yM_tag yM_tag ∈ hw_TS := hw_sel (n := 31) 27 (by decide +kernel) rfl
theorem iM_ok : Cond.instanceMethod yM_ok ∈ hw_TS := hw_in 772 (by decide +kernel) rfl
theorem vM_ok : Cond.selects yM_ok.cls yM_ok yM_ok ∈ hw_TS := hw_sel (n := 31) 28 (by decide +kernel) rfl
theorem iM_letters : Cond.instanceMethod yM_letters ∈ hw_TS := hw_in 776 (by decide +kernel) rfl
theorem vM_letters : Cond.selects yM_letters.cls yM_letters yM_letters ∈ hw_TS := hw_sel (n := 31) 29 (by decide +kernel) rfl
theorem iM_entity : Cond.instanceMethod yM_entity ∈ hw_TS := hw_in 780 (by decide +kernel) rfl
theorem vM_entity : Cond.selects yM_entity.cls yM_entity yM_entity ∈ hw_TS := hw_sel (n := 31) 30 (by decide +kernel) rfl
theorem iM_element : Cond.instanceMethod yM_element ∈ hw_TS := hw_in 784 (by decide +kernel) rfl
theorem vM_element : Cond.selects yM_element.cls yM_element yM_element ∈ hw_TS := hw_sel (n := 31) 31 (by decide +kernel) rfl
theorem iM_grant : Cond.instanceMethod yM_grant ∈ hw_TS := hw_in 788 (by decide +kernel) rfl
theorem vM_grant : Cond.selects yM_grant.cls yM_grant yM_grant ∈ hw_TS := hw_sel (n := 31) 32 (by decide +kernel) rfl
theorem iM_logout : Cond.instanceMethod yM_logout ∈ hw_TS := hw_in 791 (by decide +kernel) rfl
theorem vM_logout : Cond.selects yM_logout.cls yM_logout yM_logout ∈ hw_TS := hw_in 792 (by decide +kernel) rfl
theorem iM_ends : Cond.instanceMethod yM_ends ∈ hw_TS := hw_in 796 (by decide +kernel) rfl
theorem vM_ends : Cond.selects yM_ends.cls yM_ends yM_ends ∈ hw_TS := hw_sel (n := 31) 33 (by decide +kernel) rfl
theorem iM_tick : Cond.instanceMethod yM_tick ∈ hw_TS := hw_in 799 (by decide +kernel) rfl
theorem vM_tick : Cond.selects yM_tick.cls yM_tick yM_tick ∈ hw_TS := hw_in 800 (by decide +kernel) rfl
theorem iM_document : Cond.instanceMethod yM_document ∈ hw_TS := hw_in 803 (by decide +kernel) rfl
theorem vM_document : Cond.selects yM_document.cls yM_document yM_document ∈ hw_TS := hw_in 804 (by decide +kernel) rfl
theorem iM_session : Cond.instanceMethod yM_session ∈ hw_TS := hw_in 807 (by decide +kernel) rfl
theorem vM_session : Cond.selects yM_session.cls yM_session yM_session ∈ hw_TS := hw_in 808 (by decide +kernel) rfl
theorem iM_about : Cond.instanceMethod yM_about ∈ hw_TS := hw_in 811 (by decide +kernel) rfl
theorem vM_about : Cond.selects yM_about.cls yM_about yM_about ∈ hw_TS := hw_in 812 (by decide +kernel) rfl
theorem iM_message : Cond.instanceMethod yM_message ∈ hw_TS := hw_in 815 (by decide +kernel) rfl
theorem vM_message : Cond.selects yM_message.cls yM_message yM_message ∈ hw_TS := hw_in 816 (by decide +kernel) rfl
theorem iM_house : Cond.instanceMethod yM_house ∈ hw_TS := hw_in 819 (by decide +kernel) rfl
theorem vM_house : Cond.selects yM_house.cls yM_house yM_house ∈ hw_TS := hw_in 820 (by decide +kernel) rfl
theorem kL_56 : hw_C "TicketHouseLaw" 56 yH_init cH_init 2 none 0 := ⟨hw_in 20 (by decide +kernel) rfl, hw_in 1 (by decide +kernel) rfl, ⟨by decide, by decide, by decide +kernel⟩, Or.inl (hw_in 18 (by decide +kernel) rfl)⟩
theorem kH_40 : hw_C "TicketHouse" 40 yT_init cT_init 2 none 1 := ⟨hw_in 34 (by decide +kernel) rfl, hw_in 2 (by decide +kernel) rfl, ⟨by decide, by decide, by decide +kernel⟩, Or.inl (hw_in 32 (by decide +kernel) rfl)⟩
theorem kH_50 : hw_C "TicketHouse" 50 yU_init cU_init 3 none 1 := ⟨hw_in 50 (by decide +kernel) rfl, hw_in 3 (by decide +kernel) rfl, ⟨by decide, by decide, by decide +kernel⟩, Or.inl (hw_in 48 (by decide +kernel) rfl)⟩
theorem kU_21 : hw_C "TicketHouse$User" 21 yT_init cT_init 2 none 1 := ⟨hw_in 34 (by decide +kernel) rfl, hw_in 2 (by decide +kernel) rfl, ⟨by decide, by decide, by decide +kernel⟩, Or.inl (hw_in 54 (by decide +kernel) rfl)⟩
theorem kL_104 : hw_C "TicketHouseLaw" 104 yH_document cH_document 2 (some .int) 1 := ⟨hw_in 117 (by decide +kernel) rfl, hw_in 1 (by decide +kernel) rfl, ⟨by decide, by decide, by decide +kernel⟩, Or.inl (hw_in 114 (by decide +kernel) rfl)⟩
theorem kH_207 : hw_C "TicketHouse" 207 yT_at cT_at 2 (some .int) 1 := ⟨hw_in 121 (by decide +kernel) rfl, hw_in 2 (by decide +kernel) rfl, ⟨by decide, by decide, by decide +kernel⟩, Or.inl (hw_in 118 (by decide +kernel) rfl)⟩
theorem kL_108 : hw_C "TicketHouseLaw" 108 yH_session cH_session 4 (some .int) 2 := ⟨hw_in 125 (by decide +kernel) rfl, hw_in 1 (by decide +kernel) rfl, ⟨by decide, by decide, by decide +kernel⟩, Or.inl (hw_in 122 (by decide +kernel) rfl)⟩
theorem kH_139 : hw_C "TicketHouse" 139 yH_findSession cH_findSession 2 (some (.object "TicketHouse$Session")) 1 := ⟨hw_in 129 (by decide +kernel) rfl, hw_in 1 (by decide +kernel) rfl, ⟨by decide, by decide, by decide +kernel⟩, Or.inl (hw_in 126 (by decide +kernel) rfl)⟩
theorem kH_216 : hw_C "TicketHouse" 216 yH_oneIf cH_oneIf 1 (some .int) 1 := ⟨hw_in 132 (by decide +kernel) rfl, hw_in 1 (by decide +kernel) rfl, ⟨by decide, by decide, by decide +kernel⟩, Or.inl (hw_in 130 (by decide +kernel) rfl)⟩
theorem kL_112 : hw_C "TicketHouseLaw" 112 yH_about cH_about 4 (some .int) 2 := ⟨hw_in 136 (by decide +kernel) rfl, hw_in 1 (by decide +kernel) rfl, ⟨by decide, by decide, by decide +kernel⟩, Or.inl (hw_in 133 (by decide +kernel) rfl)⟩
theorem kH_153 : hw_C "TicketHouse" 153 yH_findTicket cH_findTicket 2 (some (.object "TicketHouse$Ticket")) 1 := ⟨hw_in 140 (by decide +kernel) rfl, hw_in 1 (by decide +kernel) rfl, ⟨by decide, by decide, by decide +kernel⟩, Or.inl (hw_in 137 (by decide +kernel) rfl)⟩
theorem kH_162 : hw_C "TicketHouse" 162 yK_isGood cK_isGood 3 (some .boolean) 1 := ⟨hw_in 144 (by decide +kernel) rfl, hw_in 11 (by decide +kernel) rfl, ⟨by decide, by decide, by decide +kernel⟩, Or.inl (hw_in 141 (by decide +kernel) rfl)⟩
theorem kL_116 : hw_C "TicketHouseLaw" 116 yH_message cH_message 2 (some .int) 1 := ⟨hw_in 148 (by decide +kernel) rfl, hw_in 1 (by decide +kernel) rfl, ⟨by decide, by decide, by decide +kernel⟩, Or.inl (hw_in 145 (by decide +kernel) rfl)⟩
theorem kL_120 : hw_C "TicketHouseLaw" 120 yH_house cH_house 2 (some .int) 1 := ⟨hw_in 152 (by decide +kernel) rfl, hw_in 1 (by decide +kernel) rfl, ⟨by decide, by decide, by decide +kernel⟩, Or.inl (hw_in 149 (by decide +kernel) rfl)⟩
theorem kH_242 : hw_C "TicketHouse" 242 yH_wrongTries cH_wrongTries 3 (some .int) 1 := ⟨hw_in 156 (by decide +kernel) rfl, hw_in 1 (by decide +kernel) rfl, ⟨by decide, by decide, by decide +kernel⟩, Or.inl (hw_in 153 (by decide +kernel) rfl)⟩
theorem kH_71 : hw_C "TicketHouse" 71 yH_findUser cH_findUser 2 (some (.object "TicketHouse$User")) 1 := ⟨hw_in 160 (by decide +kernel) rfl, hw_in 1 (by decide +kernel) rfl, ⟨by decide, by decide, by decide +kernel⟩, Or.inl (hw_in 157 (by decide +kernel) rfl)⟩
theorem kL_60 : (Cond.codeWith yL_letter cL_letter 4 (some .int) [(0, 9, 12, 13), (0, 9, 15, 15)] ∈ hw_TS ∧ Cond.initialized yL_letter.cls ∈ hw_TS) ∧ (yL_letter.cls ≠ "java/lang/invoke/MethodHandle" ∧ yL_letter.cls ≠ "java/lang/invoke/VarHandle" ∧ (parseMethodDescriptor yL_letter.desc).map (fun d => d.parameters.length) = some 3) ∧ Cond.methodLink "TicketHouseLaw" 60 yL_letter ∈ hw_TS := ⟨⟨hw_in 163 (by decide +kernel) rfl, hw_in 0 (by decide +kernel) rfl⟩, ⟨by decide, by decide, by decide +kernel⟩, hw_in 161 (by decide +kernel) rfl⟩
theorem kL_7 : hw_C "TicketHouseLaw" 7 yH_letter cH_letter 2 (some .int) 1 := ⟨hw_in 169 (by decide +kernel) rfl, hw_in 1 (by decide +kernel) rfl, ⟨by decide, by decide, by decide +kernel⟩, Or.inl (hw_in 166 (by decide +kernel) rfl)⟩
theorem kH_67 : hw_C "TicketHouse" 67 yT_add cT_add 2 none 1 := ⟨hw_in 256 (by decide +kernel) rfl, hw_in 2 (by decide +kernel) rfl, ⟨by decide, by decide, by decide +kernel⟩, Or.inl (hw_in 253 (by decide +kernel) rfl)⟩
theorem kL_66 : (Cond.codeWith yL_text cL_text 5 (some .int) [(0, 10, 13, 13)] ∈ hw_TS ∧ Cond.initialized yL_text.cls ∈ hw_TS) ∧ (yL_text.cls ≠ "java/lang/invoke/MethodHandle" ∧ yL_text.cls ≠ "java/lang/invoke/VarHandle" ∧ (parseMethodDescriptor yL_text.desc).map (fun d => d.parameters.length) = some 4) ∧ Cond.methodLink "TicketHouseLaw" 66 yL_text ∈ hw_TS := ⟨⟨hw_in 259 (by decide +kernel) rfl, hw_in 0 (by decide +kernel) rfl⟩, ⟨by decide, by decide, by decide +kernel⟩, hw_in 257 (by decide +kernel) rfl⟩
theorem kL_17 : hw_C "TicketHouseLaw" 17 yH_text cH_text 5 (some .int) 2 := ⟨hw_in 263 (by decide +kernel) rfl, hw_in 1 (by decide +kernel) rfl, ⟨by decide, by decide, by decide +kernel⟩, Or.inl (hw_in 260 (by decide +kernel) rfl)⟩
theorem kH_81 : hw_C "TicketHouse" 81 yT_become cT_become 3 none 1 := ⟨hw_in 268 (by decide +kernel) rfl, hw_in 2 (by decide +kernel) rfl, ⟨by decide, by decide, by decide +kernel⟩, Or.inl (hw_in 265 (by decide +kernel) rfl)⟩
theorem kT_56 : hw_C "TicketHouse$Text" 56 yT_clear cT_clear 1 none 0 := ⟨hw_in 272 (by decide +kernel) rfl, hw_in 2 (by decide +kernel) rfl, ⟨by decide, by decide, by decide +kernel⟩, Or.inl (hw_in 269 (by decide +kernel) rfl)⟩
theorem kT_28 : hw_C "TicketHouse$Text" 28 yT_add cT_add 2 none 1 := ⟨hw_in 256 (by decide +kernel) rfl, hw_in 2 (by decide +kernel) rfl, ⟨by decide, by decide, by decide +kernel⟩, Or.inl (hw_in 273 (by decide +kernel) rfl)⟩
theorem kH_85 : hw_C "TicketHouse" 85 yT_clear cT_clear 1 none 0 := ⟨hw_in 272 (by decide +kernel) rfl, hw_in 2 (by decide +kernel) rfl, ⟨by decide, by decide, by decide +kernel⟩, Or.inl (hw_in 274 (by decide +kernel) rfl)⟩
theorem kL_70 : (Cond.codeWith yL_password cL_password 5 (some .int) [(0, 17, 20, 13)] ∈ hw_TS ∧ Cond.initialized yL_password.cls ∈ hw_TS) ∧ (yL_password.cls ≠ "java/lang/invoke/MethodHandle" ∧ yL_password.cls ≠ "java/lang/invoke/VarHandle" ∧ (parseMethodDescriptor yL_password.desc).map (fun d => d.parameters.length) = some 4) ∧ Cond.methodLink "TicketHouseLaw" 70 yL_password ∈ hw_TS := ⟨⟨hw_in 277 (by decide +kernel) rfl, hw_in 0 (by decide +kernel) rfl⟩, ⟨by decide, by decide, by decide +kernel⟩, hw_in 275 (by decide +kernel) rfl⟩
theorem kL_21 : hw_C "TicketHouseLaw" 21 yH_password cH_password 4 (some .boolean) 2 := ⟨hw_in 281 (by decide +kernel) rfl, hw_in 1 (by decide +kernel) rfl, ⟨by decide, by decide, by decide +kernel⟩, Or.inl (hw_in 278 (by decide +kernel) rfl)⟩
theorem kH_90 : hw_C "TicketHouse" 90 yU_setWord cU_setWord 2 none 1 := ⟨hw_in 286 (by decide +kernel) rfl, hw_in 3 (by decide +kernel) rfl, ⟨by decide, by decide, by decide +kernel⟩, Or.inl (hw_in 283 (by decide +kernel) rfl)⟩
theorem kL_73 : (Cond.codeWith yL_service cL_service 5 (some .int) [(0, 10, 13, 13)] ∈ hw_TS ∧ Cond.initialized yL_service.cls ∈ hw_TS) ∧ (yL_service.cls ≠ "java/lang/invoke/MethodHandle" ∧ yL_service.cls ≠ "java/lang/invoke/VarHandle" ∧ (parseMethodDescriptor yL_service.desc).map (fun d => d.parameters.length) = some 4) ∧ Cond.methodLink "TicketHouseLaw" 73 yL_service ∈ hw_TS := ⟨⟨hw_in 289 (by decide +kernel) rfl, hw_in 0 (by decide +kernel) rfl⟩, ⟨by decide, by decide, by decide +kernel⟩, hw_in 287 (by decide +kernel) rfl⟩
theorem kL_25 : hw_C "TicketHouseLaw" 25 yH_service cH_service 4 (some .int) 2 := ⟨hw_in 293 (by decide +kernel) rfl, hw_in 1 (by decide +kernel) rfl, ⟨by decide, by decide, by decide +kernel⟩, Or.inl (hw_in 290 (by decide +kernel) rfl)⟩
theorem kH_93 : hw_C "TicketHouse" 93 yH_isService cH_isService 1 (some .boolean) 1 := ⟨hw_in 296 (by decide +kernel) rfl, hw_in 1 (by decide +kernel) rfl, ⟨by decide, by decide, by decide +kernel⟩, Or.inl (hw_in 294 (by decide +kernel) rfl)⟩
theorem kL_76 : (Cond.codeWith yL_callback cL_callback 5 (some .int) [(0, 17, 20, 13)] ∈ hw_TS ∧ Cond.initialized yL_callback.cls ∈ hw_TS) ∧ (yL_callback.cls ≠ "java/lang/invoke/MethodHandle" ∧ yL_callback.cls ≠ "java/lang/invoke/VarHandle" ∧ (parseMethodDescriptor yL_callback.desc).map (fun d => d.parameters.length) = some 4) ∧ Cond.methodLink "TicketHouseLaw" 76 yL_callback ∈ hw_TS := ⟨⟨hw_in 300 (by decide +kernel) rfl, hw_in 0 (by decide +kernel) rfl⟩, ⟨by decide, by decide, by decide +kernel⟩, hw_in 298 (by decide +kernel) rfl⟩
theorem kL_28 : hw_C "TicketHouseLaw" 28 yH_callback cH_callback 4 (some .boolean) 2 := ⟨hw_in 304 (by decide +kernel) rfl, hw_in 1 (by decide +kernel) rfl, ⟨by decide, by decide, by decide +kernel⟩, Or.inl (hw_in 301 (by decide +kernel) rfl)⟩
theorem kL_80 : (Cond.codeWith yL_login cL_login 6 (some .int) [(0, 12, 15, 13), (0, 12, 19, 15)] ∈ hw_TS ∧ Cond.initialized yL_login.cls ∈ hw_TS) ∧ (yL_login.cls ≠ "java/lang/invoke/MethodHandle" ∧ yL_login.cls ≠ "java/lang/invoke/VarHandle" ∧ (parseMethodDescriptor yL_login.desc).map (fun d => d.parameters.length) = some 5) ∧ Cond.methodLink "TicketHouseLaw" 80 yL_login ∈ hw_TS := ⟨⟨hw_in 308 (by decide +kernel) rfl, hw_in 0 (by decide +kernel) rfl⟩, ⟨by decide, by decide, by decide +kernel⟩, hw_in 306 (by decide +kernel) rfl⟩
theorem kL_32 : hw_C "TicketHouseLaw" 32 yH_login cH_login 6 (some .int) 3 := ⟨hw_in 312 (by decide +kernel) rfl, hw_in 1 (by decide +kernel) rfl, ⟨by decide, by decide, by decide +kernel⟩, Or.inl (hw_in 309 (by decide +kernel) rfl)⟩
theorem kH_109 : hw_C "TicketHouse" 109 yU_attempt cU_attempt 3 (some .int) 2 := ⟨hw_in 317 (by decide +kernel) rfl, hw_in 3 (by decide +kernel) rfl, ⟨by decide, by decide, by decide +kernel⟩, Or.inl (hw_in 314 (by decide +kernel) rfl)⟩
theorem kH_113 : hw_C "TicketHouse" 113 yH_openSession cH_openSession 4 (some (.object "TicketHouse$Session")) 2 := ⟨hw_in 321 (by decide +kernel) rfl, hw_in 1 (by decide +kernel) rfl, ⟨by decide, by decide, by decide +kernel⟩, Or.inl (hw_in 318 (by decide +kernel) rfl)⟩
theorem kH_251 : hw_C "TicketHouse" 251 yS_init cS_init 5 none 4 := ⟨hw_in 325 (by decide +kernel) rfl, hw_in 10 (by decide +kernel) rfl, ⟨by decide, by decide, by decide +kernel⟩, Or.inl (hw_in 323 (by decide +kernel) rfl)⟩
theorem kL_84 : (Cond.codeWith yL_enter cL_enter 6 (some .int) [(0, 12, 15, 13), (0, 12, 19, 15)] ∈ hw_TS ∧ Cond.initialized yL_enter.cls ∈ hw_TS) ∧ (yL_enter.cls ≠ "java/lang/invoke/MethodHandle" ∧ yL_enter.cls ≠ "java/lang/invoke/VarHandle" ∧ (parseMethodDescriptor yL_enter.desc).map (fun d => d.parameters.length) = some 5) ∧ Cond.methodLink "TicketHouseLaw" 84 yL_enter ∈ hw_TS := ⟨⟨hw_in 355 (by decide +kernel) rfl, hw_in 0 (by decide +kernel) rfl⟩, ⟨by decide, by decide, by decide +kernel⟩, hw_in 353 (by decide +kernel) rfl⟩
theorem kL_36 : hw_C "TicketHouseLaw" 36 yH_enter cH_enter 7 (some .int) 3 := ⟨hw_in 359 (by decide +kernel) rfl, hw_in 1 (by decide +kernel) rfl, ⟨by decide, by decide, by decide +kernel⟩, Or.inl (hw_in 356 (by decide +kernel) rfl)⟩
theorem kH_120 : hw_C "TicketHouse" 120 yH_isEnabled cH_isEnabled 2 (some .boolean) 1 := ⟨hw_in 363 (by decide +kernel) rfl, hw_in 1 (by decide +kernel) rfl, ⟨by decide, by decide, by decide +kernel⟩, Or.inl (hw_in 360 (by decide +kernel) rfl)⟩
theorem kH_247 : hw_C "TicketHouse" 247 yH_hasFlag cH_hasFlag 3 (some .boolean) 2 := ⟨hw_in 367 (by decide +kernel) rfl, hw_in 1 (by decide +kernel) rfl, ⟨by decide, by decide, by decide +kernel⟩, Or.inl (hw_in 364 (by decide +kernel) rfl)⟩
theorem kH_130 : hw_C "TicketHouse" 130 yH_giveTicket cH_giveTicket 6 (some (.object "TicketHouse$Ticket")) 4 := ⟨hw_in 373 (by decide +kernel) rfl, hw_in 1 (by decide +kernel) rfl, ⟨by decide, by decide, by decide +kernel⟩, Or.inl (hw_in 370 (by decide +kernel) rfl)⟩
theorem kH_254 : hw_C "TicketHouse" 254 yK_init cK_init 8 none 6 := ⟨hw_in 377 (by decide +kernel) rfl, hw_in 11 (by decide +kernel) rfl, ⟨by decide, by decide, by decide +kernel⟩, Or.inl (hw_in 375 (by decide +kernel) rfl)⟩
theorem kL_88 : (Cond.codeWith yL_ticket cL_ticket 5 (some .int) [(0, 10, 13, 13), (0, 10, 17, 15)] ∈ hw_TS ∧ Cond.initialized yL_ticket.cls ∈ hw_TS) ∧ (yL_ticket.cls ≠ "java/lang/invoke/MethodHandle" ∧ yL_ticket.cls ≠ "java/lang/invoke/VarHandle" ∧ (parseMethodDescriptor yL_ticket.desc).map (fun d => d.parameters.length) = some 4) ∧ Cond.methodLink "TicketHouseLaw" 88 yL_ticket ∈ hw_TS := ⟨⟨hw_in 418 (by decide +kernel) rfl, hw_in 0 (by decide +kernel) rfl⟩, ⟨by decide, by decide, by decide +kernel⟩, hw_in 416 (by decide +kernel) rfl⟩
theorem kL_40 : hw_C "TicketHouseLaw" 40 yH_ticket cH_ticket 4 (some .int) 2 := ⟨hw_in 422 (by decide +kernel) rfl, hw_in 1 (by decide +kernel) rfl, ⟨by decide, by decide, by decide +kernel⟩, Or.inl (hw_in 419 (by decide +kernel) rfl)⟩
theorem kL_91 : (Cond.codeWith yL_proxy cL_proxy 5 (some .int) [(0, 10, 13, 13), (0, 10, 17, 15)] ∈ hw_TS ∧ Cond.initialized yL_proxy.cls ∈ hw_TS) ∧ (yL_proxy.cls ≠ "java/lang/invoke/MethodHandle" ∧ yL_proxy.cls ≠ "java/lang/invoke/VarHandle" ∧ (parseMethodDescriptor yL_proxy.desc).map (fun d => d.parameters.length) = some 4) ∧ Cond.methodLink "TicketHouseLaw" 91 yL_proxy ∈ hw_TS := ⟨⟨hw_in 427 (by decide +kernel) rfl, hw_in 0 (by decide +kernel) rfl⟩, ⟨by decide, by decide, by decide +kernel⟩, hw_in 425 (by decide +kernel) rfl⟩
theorem kL_43 : hw_C "TicketHouseLaw" 43 yH_proxy cH_proxy 4 (some .int) 2 := ⟨hw_in 431 (by decide +kernel) rfl, hw_in 1 (by decide +kernel) rfl, ⟨by decide, by decide, by decide +kernel⟩, Or.inl (hw_in 428 (by decide +kernel) rfl)⟩
theorem kL_94 : (Cond.codeWith yL_validate cL_validate 7 (some .int) [(0, 14, 17, 13)] ∈ hw_TS ∧ Cond.initialized yL_validate.cls ∈ hw_TS) ∧ (yL_validate.cls ≠ "java/lang/invoke/MethodHandle" ∧ yL_validate.cls ≠ "java/lang/invoke/VarHandle" ∧ (parseMethodDescriptor yL_validate.desc).map (fun d => d.parameters.length) = some 6) ∧ Cond.methodLink "TicketHouseLaw" 94 yL_validate ∈ hw_TS := ⟨⟨hw_in 436 (by decide +kernel) rfl, hw_in 0 (by decide +kernel) rfl⟩, ⟨by decide, by decide, by decide +kernel⟩, hw_in 434 (by decide +kernel) rfl⟩
theorem kL_46 : hw_C "TicketHouseLaw" 46 yH_validate cH_validate 7 (some .int) 4 := ⟨hw_in 440 (by decide +kernel) rfl, hw_in 1 (by decide +kernel) rfl, ⟨by decide, by decide, by decide +kernel⟩, Or.inl (hw_in 437 (by decide +kernel) rfl)⟩
theorem kH_173 : hw_C "TicketHouse" 173 yH_refuse cH_refuse 3 (some .int) 2 := ⟨hw_in 445 (by decide +kernel) rfl, hw_in 1 (by decide +kernel) rfl, ⟨by decide, by decide, by decide +kernel⟩, Or.inl (hw_in 442 (by decide +kernel) rfl)⟩
theorem kH_263 : hw_C "TicketHouse" 263 yT_addAll cT_addAll 3 none 1 := ⟨hw_in 450 (by decide +kernel) rfl, hw_in 2 (by decide +kernel) rfl, ⟨by decide, by decide, by decide +kernel⟩, Or.inl (hw_in 447 (by decide +kernel) rfl)⟩
theorem kH_266 : hw_C "TicketHouse" 266 yT_addNumber cT_addNumber 5 none 1 := ⟨hw_in 502 (by decide +kernel) rfl, hw_in 2 (by decide +kernel) rfl, ⟨by decide, by decide, by decide +kernel⟩, Or.inl (hw_in 499 (by decide +kernel) rfl)⟩
theorem kT_32 : hw_C "TicketHouse$Text" 32 yT_turnRound cT_turnRound 5 none 1 := ⟨hw_in 506 (by decide +kernel) rfl, hw_in 2 (by decide +kernel) rfl, ⟨by decide, by decide, by decide +kernel⟩, Or.inl (hw_in 503 (by decide +kernel) rfl)⟩
theorem kH_176 : hw_C "TicketHouse" 176 yK_judge cK_judge 4 (some .int) 3 := ⟨hw_in 512 (by decide +kernel) rfl, hw_in 11 (by decide +kernel) rfl, ⟨by decide, by decide, by decide +kernel⟩, Or.inl (hw_in 509 (by decide +kernel) rfl)⟩
theorem kK_44 : hw_C "TicketHouse$Ticket" 44 yK_isGood cK_isGood 3 (some .boolean) 1 := ⟨hw_in 144 (by decide +kernel) rfl, hw_in 11 (by decide +kernel) rfl, ⟨by decide, by decide, by decide +kernel⟩, Or.inl (hw_in 513 (by decide +kernel) rfl)⟩
theorem kH_183 : hw_C "TicketHouse" 183 yH_grantFor cH_grantFor 4 (some (.object "TicketHouse$Ticket")) 2 := ⟨hw_in 517 (by decide +kernel) rfl, hw_in 1 (by decide +kernel) rfl, ⟨by decide, by decide, by decide +kernel⟩, Or.inl (hw_in 514 (by decide +kernel) rfl)⟩
theorem kH_187 : hw_C "TicketHouse" 187 yH_writeAcceptance cH_writeAcceptance 5 none 3 := ⟨hw_in 521 (by decide +kernel) rfl, hw_in 1 (by decide +kernel) rfl, ⟨by decide, by decide, by decide +kernel⟩, Or.inl (hw_in 518 (by decide +kernel) rfl)⟩
theorem kH_275 : hw_C "TicketHouse" 275 yT_addEscapedT cT_addEscapedT 3 none 1 := ⟨hw_in 526 (by decide +kernel) rfl, hw_in 2 (by decide +kernel) rfl, ⟨by decide, by decide, by decide +kernel⟩, Or.inl (hw_in 523 (by decide +kernel) rfl)⟩
theorem kT_45 : hw_C "TicketHouse$Text" 45 yT_addEscapedC cT_addEscapedC 2 none 1 := ⟨hw_in 530 (by decide +kernel) rfl, hw_in 2 (by decide +kernel) rfl, ⟨by decide, by decide, by decide +kernel⟩, Or.inl (hw_in 527 (by decide +kernel) rfl)⟩
theorem kT_41 : hw_C "TicketHouse$Text" 41 yT_addAll cT_addAll 3 none 1 := ⟨hw_in 450 (by decide +kernel) rfl, hw_in 2 (by decide +kernel) rfl, ⟨by decide, by decide, by decide +kernel⟩, Or.inl (hw_in 532 (by decide +kernel) rfl)⟩
theorem kH_278 : hw_C "TicketHouse" 278 yH_writeAttributes cH_writeAttributes 5 none 2 := ⟨hw_in 539 (by decide +kernel) rfl, hw_in 1 (by decide +kernel) rfl, ⟨by decide, by decide, by decide +kernel⟩, Or.inl (hw_in 536 (by decide +kernel) rfl)⟩
theorem kH_282 : hw_C "TicketHouse" 282 yT_addElement cT_addElement 3 none 2 := ⟨hw_in 545 (by decide +kernel) rfl, hw_in 2 (by decide +kernel) rfl, ⟨by decide, by decide, by decide +kernel⟩, Or.inl (hw_in 542 (by decide +kernel) rfl)⟩
theorem kT_36 : hw_C "TicketHouse$Text" 36 yT_addNumber cT_addNumber 5 none 1 := ⟨hw_in 502 (by decide +kernel) rfl, hw_in 2 (by decide +kernel) rfl, ⟨by decide, by decide, by decide +kernel⟩, Or.inl (hw_in 546 (by decide +kernel) rfl)⟩
theorem kH_286 : hw_C "TicketHouse" 286 yH_writeChain cH_writeChain 3 none 1 := ⟨hw_in 551 (by decide +kernel) rfl, hw_in 1 (by decide +kernel) rfl, ⟨by decide, by decide, by decide +kernel⟩, Or.inl (hw_in 548 (by decide +kernel) rfl)⟩
theorem kL_98 : (Cond.codeWith yL_logout cL_logout 4 (some .int) [(0, 9, 12, 13), (0, 9, 15, 15)] ∈ hw_TS ∧ Cond.initialized yL_logout.cls ∈ hw_TS) ∧ (yL_logout.cls ≠ "java/lang/invoke/MethodHandle" ∧ yL_logout.cls ≠ "java/lang/invoke/VarHandle" ∧ (parseMethodDescriptor yL_logout.desc).map (fun d => d.parameters.length) = some 3) ∧ Cond.methodLink "TicketHouseLaw" 98 yL_logout ∈ hw_TS := ⟨⟨hw_in 555 (by decide +kernel) rfl, hw_in 0 (by decide +kernel) rfl⟩, ⟨by decide, by decide, by decide +kernel⟩, hw_in 553 (by decide +kernel) rfl⟩
theorem kL_50 : hw_C "TicketHouseLaw" 50 yH_logout cH_logout 3 (some .int) 1 := ⟨hw_in 559 (by decide +kernel) rfl, hw_in 1 (by decide +kernel) rfl, ⟨by decide, by decide, by decide +kernel⟩, Or.inl (hw_in 556 (by decide +kernel) rfl)⟩
theorem kH_195 : hw_C "TicketHouse" 195 yH_end cH_end 4 (some .int) 1 := ⟨hw_in 565 (by decide +kernel) rfl, hw_in 1 (by decide +kernel) rfl, ⟨by decide, by decide, by decide +kernel⟩, Or.inl (hw_in 562 (by decide +kernel) rfl)⟩
theorem kH_257 : hw_C "TicketHouse" 257 yH_tellOfEnd cH_tellOfEnd 2 none 1 := ⟨hw_in 569 (by decide +kernel) rfl, hw_in 1 (by decide +kernel) rfl, ⟨by decide, by decide, by decide +kernel⟩, Or.inl (hw_in 566 (by decide +kernel) rfl)⟩
theorem kL_101 : (Cond.codeWith yL_tick cL_tick 4 (some .int) [(0, 9, 12, 13)] ∈ hw_TS ∧ Cond.initialized yL_tick.cls ∈ hw_TS) ∧ (yL_tick.cls ≠ "java/lang/invoke/MethodHandle" ∧ yL_tick.cls ≠ "java/lang/invoke/VarHandle" ∧ (parseMethodDescriptor yL_tick.desc).map (fun d => d.parameters.length) = some 3) ∧ Cond.methodLink "TicketHouseLaw" 101 yL_tick ∈ hw_TS := ⟨⟨hw_in 572 (by decide +kernel) rfl, hw_in 0 (by decide +kernel) rfl⟩, ⟨by decide, by decide, by decide +kernel⟩, hw_in 570 (by decide +kernel) rfl⟩
theorem kL_53 : hw_C "TicketHouseLaw" 53 yH_tick cH_tick 3 (some .int) 1 := ⟨hw_in 576 (by decide +kernel) rfl, hw_in 1 (by decide +kernel) rfl, ⟨by decide, by decide, by decide +kernel⟩, Or.inl (hw_in 573 (by decide +kernel) rfl)⟩
theorem kH_201 : hw_C "TicketHouse" 201 yU_unlockIfDue cU_unlockIfDue 2 none 1 := ⟨hw_in 581 (by decide +kernel) rfl, hw_in 3 (by decide +kernel) rfl, ⟨by decide, by decide, by decide +kernel⟩, Or.inl (hw_in 578 (by decide +kernel) rfl)⟩
theorem kH_204 : hw_C "TicketHouse" 204 yS_isOver cS_isOver 4 (some .boolean) 1 := ⟨hw_in 585 (by decide +kernel) rfl, hw_in 10 (by decide +kernel) rfl, ⟨by decide, by decide, by decide +kernel⟩, Or.inl (hw_in 582 (by decide +kernel) rfl)⟩
theorem kL_59 : hw_C "TicketHouseLaw" 59 yM_init cM_init 1 none 0 := ⟨hw_in 590 (by decide +kernel) rfl, hw_in 4 (by decide +kernel) rfl, ⟨by decide, by decide, by decide +kernel⟩, Or.inl (hw_in 588 (by decide +kernel) rfl)⟩
theorem kL_65 : hw_C "TicketHouseLaw" 65 yM_letter cM_letter 2 (some .int) 1 := ⟨hw_in 689 (by decide +kernel) rfl, hw_in 4 (by decide +kernel) rfl, ⟨by decide, by decide, by decide +kernel⟩, Or.inl (hw_in 686 (by decide +kernel) rfl)⟩
theorem kM_90 : hw_C "TicketHouseModel" 90 yM_within cM_within 3 (some .boolean) 3 := ⟨hw_in 692 (by decide +kernel) rfl, hw_in 4 (by decide +kernel) rfl, ⟨by decide, by decide, by decide +kernel⟩, Or.inl (hw_in 690 (by decide +kernel) rfl)⟩
theorem kL_69 : hw_C "TicketHouseLaw" 69 yM_text cM_text 5 (some .int) 2 := ⟨hw_in 696 (by decide +kernel) rfl, hw_in 4 (by decide +kernel) rfl, ⟨by decide, by decide, by decide +kernel⟩, Or.inl (hw_in 693 (by decide +kernel) rfl)⟩
theorem kL_72 : hw_C "TicketHouseLaw" 72 yM_password cM_password 3 (some .boolean) 2 := ⟨hw_in 700 (by decide +kernel) rfl, hw_in 4 (by decide +kernel) rfl, ⟨by decide, by decide, by decide +kernel⟩, Or.inl (hw_in 697 (by decide +kernel) rfl)⟩
theorem kL_75 : hw_C "TicketHouseLaw" 75 yM_service cM_service 4 (some .int) 2 := ⟨hw_in 704 (by decide +kernel) rfl, hw_in 4 (by decide +kernel) rfl, ⟨by decide, by decide, by decide +kernel⟩, Or.inl (hw_in 701 (by decide +kernel) rfl)⟩
theorem kL_79 : hw_C "TicketHouseLaw" 79 yM_callback cM_callback 4 (some .boolean) 2 := ⟨hw_in 708 (by decide +kernel) rfl, hw_in 4 (by decide +kernel) rfl, ⟨by decide, by decide, by decide +kernel⟩, Or.inl (hw_in 705 (by decide +kernel) rfl)⟩
theorem kL_83 : hw_C "TicketHouseLaw" 83 yM_login cM_login 4 (some .int) 3 := ⟨hw_in 712 (by decide +kernel) rfl, hw_in 4 (by decide +kernel) rfl, ⟨by decide, by decide, by decide +kernel⟩, Or.inl (hw_in 709 (by decide +kernel) rfl)⟩
theorem kM_107 : hw_C "TicketHouseModel" 107 yM_tries cM_tries 5 (some .int) 3 := ⟨hw_in 716 (by decide +kernel) rfl, hw_in 4 (by decide +kernel) rfl, ⟨by decide, by decide, by decide +kernel⟩, Or.inl (hw_in 713 (by decide +kernel) rfl)⟩
theorem kM_100 : hw_C "TicketHouseModel" 100 yM_counting cM_counting 2 (some .int) 1 := ⟨hw_in 720 (by decide +kernel) rfl, hw_in 4 (by decide +kernel) rfl, ⟨by decide, by decide, by decide +kernel⟩, Or.inl (hw_in 717 (by decide +kernel) rfl)⟩
theorem kL_87 : hw_C "TicketHouseLaw" 87 yM_enter cM_enter 5 (some .int) 3 := ⟨hw_in 724 (by decide +kernel) rfl, hw_in 4 (by decide +kernel) rfl, ⟨by decide, by decide, by decide +kernel⟩, Or.inl (hw_in 721 (by decide +kernel) rfl)⟩
theorem kM_114 : hw_C "TicketHouseModel" 114 yM_enabled cM_enabled 2 (some .boolean) 1 := ⟨hw_in 728 (by decide +kernel) rfl, hw_in 4 (by decide +kernel) rfl, ⟨by decide, by decide, by decide +kernel⟩, Or.inl (hw_in 725 (by decide +kernel) rfl)⟩
theorem kM_118 : hw_C "TicketHouseModel" 118 yM_give cM_give 6 (some .int) 5 := ⟨hw_in 732 (by decide +kernel) rfl, hw_in 4 (by decide +kernel) rfl, ⟨by decide, by decide, by decide +kernel⟩, Or.inl (hw_in 729 (by decide +kernel) rfl)⟩
theorem kL_90 : hw_C "TicketHouseLaw" 90 yM_ticket cM_ticket 3 (some .int) 2 := ⟨hw_in 736 (by decide +kernel) rfl, hw_in 4 (by decide +kernel) rfl, ⟨by decide, by decide, by decide +kernel⟩, Or.inl (hw_in 733 (by decide +kernel) rfl)⟩
theorem kL_93 : hw_C "TicketHouseLaw" 93 yM_proxy cM_proxy 3 (some .int) 2 := ⟨hw_in 740 (by decide +kernel) rfl, hw_in 4 (by decide +kernel) rfl, ⟨by decide, by decide, by decide +kernel⟩, Or.inl (hw_in 737 (by decide +kernel) rfl)⟩
theorem kM_122 : hw_C "TicketHouseModel" 122 yM_good cM_good 3 (some .boolean) 1 := ⟨hw_in 744 (by decide +kernel) rfl, hw_in 4 (by decide +kernel) rfl, ⟨by decide, by decide, by decide +kernel⟩, Or.inl (hw_in 741 (by decide +kernel) rfl)⟩
theorem kL_97 : hw_C "TicketHouseLaw" 97 yM_validate cM_validate 7 (some .int) 4 := ⟨hw_in 748 (by decide +kernel) rfl, hw_in 4 (by decide +kernel) rfl, ⟨by decide, by decide, by decide +kernel⟩, Or.inl (hw_in 745 (by decide +kernel) rfl)⟩
theorem kM_152 : hw_C "TicketHouseModel" 152 yM_judged cM_judged 4 (some .int) 3 := ⟨hw_in 752 (by decide +kernel) rfl, hw_in 4 (by decide +kernel) rfl, ⟨by decide, by decide, by decide +kernel⟩, Or.inl (hw_in 749 (by decide +kernel) rfl)⟩
theorem kM_156 : hw_C "TicketHouseModel" 156 yM_no cM_no 3 none 2 := ⟨hw_in 756 (by decide +kernel) rfl, hw_in 4 (by decide +kernel) rfl, ⟨by decide, by decide, by decide +kernel⟩, Or.inl (hw_in 753 (by decide +kernel) rfl)⟩
theorem kM_125 : hw_C "TicketHouseModel" 125 yM_put cM_put 2 none 1 := ⟨hw_in 760 (by decide +kernel) rfl, hw_in 4 (by decide +kernel) rfl, ⟨by decide, by decide, by decide +kernel⟩, Or.inl (hw_in 757 (by decide +kernel) rfl)⟩
theorem kM_139 : hw_C "TicketHouseModel" 139 yM_number cM_number 6 none 1 := ⟨hw_in 764 (by decide +kernel) rfl, hw_in 4 (by decide +kernel) rfl, ⟨by decide, by decide, by decide +kernel⟩, Or.inl (hw_in 761 (by decide +kernel) rfl)⟩
theorem kM_135 : hw_C "TicketHouseModel" 135 yM_tag cM_tag 4 none 3 := ⟨hw_in 769 (by decide +kernel) rfl, hw_in 4 (by decide +kernel) rfl, ⟨by decide, by decide, by decide +kernel⟩, Or.inl (hw_in 766 (by decide +kernel) rfl)⟩
theorem kM_159 : hw_C "TicketHouseModel" 159 yM_ok cM_ok 8 none 4 := ⟨hw_in 773 (by decide +kernel) rfl, hw_in 4 (by decide +kernel) rfl, ⟨by decide, by decide, by decide +kernel⟩, Or.inl (hw_in 770 (by decide +kernel) rfl)⟩
theorem kM_142 : hw_C "TicketHouseModel" 142 yM_letters cM_letters 4 none 1 := ⟨hw_in 777 (by decide +kernel) rfl, hw_in 4 (by decide +kernel) rfl, ⟨by decide, by decide, by decide +kernel⟩, Or.inl (hw_in 774 (by decide +kernel) rfl)⟩
theorem kM_131 : hw_C "TicketHouseModel" 131 yM_entity cM_entity 5 none 4 := ⟨hw_in 781 (by decide +kernel) rfl, hw_in 4 (by decide +kernel) rfl, ⟨by decide, by decide, by decide +kernel⟩, Or.inl (hw_in 778 (by decide +kernel) rfl)⟩
theorem kM_145 : hw_C "TicketHouseModel" 145 yM_element cM_element 3 none 2 := ⟨hw_in 785 (by decide +kernel) rfl, hw_in 4 (by decide +kernel) rfl, ⟨by decide, by decide, by decide +kernel⟩, Or.inl (hw_in 782 (by decide +kernel) rfl)⟩
theorem kM_149 : hw_C "TicketHouseModel" 149 yM_grant cM_grant 3 (some .int) 1 := ⟨hw_in 789 (by decide +kernel) rfl, hw_in 4 (by decide +kernel) rfl, ⟨by decide, by decide, by decide +kernel⟩, Or.inl (hw_in 786 (by decide +kernel) rfl)⟩
theorem kL_100 : hw_C "TicketHouseLaw" 100 yM_logout cM_logout 2 (some .int) 1 := ⟨hw_in 793 (by decide +kernel) rfl, hw_in 4 (by decide +kernel) rfl, ⟨by decide, by decide, by decide +kernel⟩, Or.inl (hw_in 790 (by decide +kernel) rfl)⟩
theorem kM_166 : hw_C "TicketHouseModel" 166 yM_ends cM_ends 4 (some .int) 1 := ⟨hw_in 797 (by decide +kernel) rfl, hw_in 4 (by decide +kernel) rfl, ⟨by decide, by decide, by decide +kernel⟩, Or.inl (hw_in 794 (by decide +kernel) rfl)⟩
theorem kL_103 : hw_C "TicketHouseLaw" 103 yM_tick cM_tick 5 (some .int) 1 := ⟨hw_in 801 (by decide +kernel) rfl, hw_in 4 (by decide +kernel) rfl, ⟨by decide, by decide, by decide +kernel⟩, Or.inl (hw_in 798 (by decide +kernel) rfl)⟩
theorem kL_107 : hw_C "TicketHouseLaw" 107 yM_document cM_document 2 (some .int) 1 := ⟨hw_in 805 (by decide +kernel) rfl, hw_in 4 (by decide +kernel) rfl, ⟨by decide, by decide, by decide +kernel⟩, Or.inl (hw_in 802 (by decide +kernel) rfl)⟩
theorem kL_111 : hw_C "TicketHouseLaw" 111 yM_session cM_session 3 (some .int) 2 := ⟨hw_in 809 (by decide +kernel) rfl, hw_in 4 (by decide +kernel) rfl, ⟨by decide, by decide, by decide +kernel⟩, Or.inl (hw_in 806 (by decide +kernel) rfl)⟩
theorem kL_115 : hw_C "TicketHouseLaw" 115 yM_about cM_about 5 (some .int) 2 := ⟨hw_in 813 (by decide +kernel) rfl, hw_in 4 (by decide +kernel) rfl, ⟨by decide, by decide, by decide +kernel⟩, Or.inl (hw_in 810 (by decide +kernel) rfl)⟩
theorem kL_119 : hw_C "TicketHouseLaw" 119 yM_message cM_message 2 (some .int) 1 := ⟨hw_in 817 (by decide +kernel) rfl, hw_in 4 (by decide +kernel) rfl, ⟨by decide, by decide, by decide +kernel⟩, Or.inl (hw_in 814 (by decide +kernel) rfl)⟩
theorem kL_123 : hw_C "TicketHouseLaw" 123 yM_house cM_house 2 (some .int) 1 := ⟨hw_in 821 (by decide +kernel) rfl, hw_in 4 (by decide +kernel) rfl, ⟨by decide, by decide, by decide +kernel⟩, Or.inl (hw_in 818 (by decide +kernel) rfl)⟩
theorem oH : Cond.methodLink "TicketHouse" 1 Lib.objectInit ∈ hw_TS ∧ Cond.instanceMethod Lib.objectInit ∈ hw_TS ∧ Cond.code Lib.objectInit ⟨#[0xb1]⟩ 1 none ∈ hw_TS := ⟨hw_in 21 (by decide +kernel) rfl, hw_in 22 (by decide +kernel) rfl, hw_in 23 (by decide +kernel) rfl⟩
theorem oT : Cond.methodLink "TicketHouse$Text" 3 Lib.objectInit ∈ hw_TS ∧ Cond.instanceMethod Lib.objectInit ∈ hw_TS ∧ Cond.code Lib.objectInit ⟨#[0xb1]⟩ 1 none ∈ hw_TS := ⟨hw_in 35 (by decide +kernel) rfl, hw_in 22 (by decide +kernel) rfl, hw_in 23 (by decide +kernel) rfl⟩
theorem oU : Cond.methodLink "TicketHouse$User" 3 Lib.objectInit ∈ hw_TS ∧ Cond.instanceMethod Lib.objectInit ∈ hw_TS ∧ Cond.code Lib.objectInit ⟨#[0xb1]⟩ 1 none ∈ hw_TS := ⟨hw_in 51 (by decide +kernel) rfl, hw_in 22 (by decide +kernel) rfl, hw_in 23 (by decide +kernel) rfl⟩
theorem oS : Cond.methodLink "TicketHouse$Session" 1 Lib.objectInit ∈ hw_TS ∧ Cond.instanceMethod Lib.objectInit ∈ hw_TS ∧ Cond.code Lib.objectInit ⟨#[0xb1]⟩ 1 none ∈ hw_TS := ⟨hw_in 326 (by decide +kernel) rfl, hw_in 22 (by decide +kernel) rfl, hw_in 23 (by decide +kernel) rfl⟩
theorem oK : Cond.methodLink "TicketHouse$Ticket" 3 Lib.objectInit ∈ hw_TS ∧ Cond.instanceMethod Lib.objectInit ∈ hw_TS ∧ Cond.code Lib.objectInit ⟨#[0xb1]⟩ 1 none ∈ hw_TS := ⟨hw_in 378 (by decide +kernel) rfl, hw_in 22 (by decide +kernel) rfl, hw_in 23 (by decide +kernel) rfl⟩
theorem oM : Cond.methodLink "TicketHouseModel" 1 Lib.objectInit ∈ hw_TS ∧ Cond.instanceMethod Lib.objectInit ∈ hw_TS ∧ Cond.code Lib.objectInit ⟨#[0xb1]⟩ 1 none ∈ hw_TS := ⟨hw_in 591 (by decide +kernel) rfl, hw_in 22 (by decide +kernel) rfl, hw_in 23 (by decide +kernel) rfl⟩
theorem qL_8 : Cond.classLink "TicketHouseLaw" 8 "TicketHouse" ∈ hw_TS := hw_in 16 (by decide +kernel) rfl
theorem wL_8 : hw_N "TicketHouseLaw" 8 0 12 := ⟨0, RH, FH, tH, rfl, rfl, in_H, tH_ok, hw_in 16 (by decide +kernel) rfl, hw_in 17 (by decide +kernel) rfl, hw_in 1 (by decide +kernel) rfl, fun B j hj => by
  rcases (show j = 0 ∨ j = 1 ∨ j = 2 ∨ j = 3 ∨ j = 4 ∨ j = 5 ∨ j = 6 ∨ j = 7 ∨ j = 8 ∨ j = 9 ∨ j = 10 ∨ j = 11 by omega) with rfl | rfl | rfl | rfl | rfl | rfl | rfl | rfl | rfl | rfl | rfl | rfl <;> first | rfl | exact (hw_rdn (show (-1 : Int32) < 0 by decide)).symm⟩
theorem qH_9 : Cond.classLink "TicketHouse" 9 "TicketHouse$User" ∈ hw_TS := hw_in 24 (by decide +kernel) rfl
theorem wH_9 : hw_N "TicketHouse" 9 2 6 := ⟨1, RU, FU, tU, rfl, rfl, in_U, tU_ok, hw_in 24 (by decide +kernel) rfl, hw_in 47 (by decide +kernel) rfl, hw_in 3 (by decide +kernel) rfl, fun B j hj => by
  rcases (show j = 0 ∨ j = 1 ∨ j = 2 ∨ j = 3 ∨ j = 4 ∨ j = 5 by omega) with rfl | rfl | rfl | rfl | rfl | rfl <;> first | rfl | exact (hw_rdn (show (-1 : Int32) < 0 by decide)).symm⟩
theorem qH_23 : Cond.classLink "TicketHouse" 23 "TicketHouse$Session" ∈ hw_TS := hw_in 26 (by decide +kernel) rfl
theorem wH_23 : hw_N "TicketHouse" 23 9 6 := ⟨3, RS, FS, tS, rfl, rfl, in_S, tS_ok, hw_in 26 (by decide +kernel) rfl, hw_in 322 (by decide +kernel) rfl, hw_in 10 (by decide +kernel) rfl, fun B j hj => by
  rcases (show j = 0 ∨ j = 1 ∨ j = 2 ∨ j = 3 ∨ j = 4 ∨ j = 5 by omega) with rfl | rfl | rfl | rfl | rfl | rfl <;> first | rfl | exact (hw_rdn (show (-1 : Int32) < 0 by decide)).symm⟩
theorem qH_29 : Cond.classLink "TicketHouse" 29 "TicketHouse$Ticket" ∈ hw_TS := hw_in 28 (by decide +kernel) rfl
theorem wH_29 : hw_N "TicketHouse" 29 11 9 := ⟨4, RK, FK, tK, rfl, rfl, in_K, tK_ok, hw_in 28 (by decide +kernel) rfl, hw_in 374 (by decide +kernel) rfl, hw_in 11 (by decide +kernel) rfl, fun B j hj => by
  rcases (show j = 0 ∨ j = 1 ∨ j = 2 ∨ j = 3 ∨ j = 4 ∨ j = 5 ∨ j = 6 ∨ j = 7 ∨ j = 8 by omega) with rfl | rfl | rfl | rfl | rfl | rfl | rfl | rfl | rfl <;> first | rfl | exact (hw_rdn (show (-1 : Int32) < 0 by decide)).symm⟩
theorem qH_38 : Cond.classLink "TicketHouse" 38 "TicketHouse$Text" ∈ hw_TS := hw_in 30 (by decide +kernel) rfl
theorem wH_38 : hw_N "TicketHouse" 38 4 2 := ⟨2, RT, FT, tT, rfl, rfl, in_T, tT_ok, hw_in 30 (by decide +kernel) rfl, hw_in 31 (by decide +kernel) rfl, hw_in 2 (by decide +kernel) rfl, fun B j hj => by
  rcases (show j = 0 ∨ j = 1 by omega) with rfl | rfl <;> first | rfl | exact (hw_rdn (show (-1 : Int32) < 0 by decide)).symm⟩
theorem qU_9 : Cond.classLink "TicketHouse$User" 9 "TicketHouse$Text" ∈ hw_TS := hw_in 52 (by decide +kernel) rfl
theorem wU_9 : hw_N "TicketHouse$User" 9 4 2 := ⟨2, RT, FT, tT, rfl, rfl, in_T, tT_ok, hw_in 52 (by decide +kernel) rfl, hw_in 31 (by decide +kernel) rfl, hw_in 2 (by decide +kernel) rfl, fun B j hj => by
  rcases (show j = 0 ∨ j = 1 by omega) with rfl | rfl <;> first | rfl | exact (hw_rdn (show (-1 : Int32) < 0 by decide)).symm⟩
theorem qL_13 : Cond.classLink "TicketHouseLaw" 13 "java/lang/IllegalArgumentException" ∈ hw_TS := hw_in 164 (by decide +kernel) rfl
theorem qL_15 : Cond.classLink "TicketHouseLaw" 15 "java/lang/IllegalStateException" ∈ hw_TS := hw_in 165 (by decide +kernel) rfl
theorem qH_51 : Cond.classLink "TicketHouse" 51 "java/lang/IllegalArgumentException" ∈ hw_TS := hw_in 170 (by decide +kernel) rfl
theorem qH_62 : Cond.classLink "TicketHouse" 62 "java/lang/IllegalStateException" ∈ hw_TS := hw_in 237 (by decide +kernel) rfl
theorem qL_57 : Cond.classLink "TicketHouseLaw" 57 "TicketHouseModel" ∈ hw_TS := hw_in 586 (by decide +kernel) rfl
theorem wL_57 : hw_N "TicketHouseLaw" 57 20 31 := ⟨5, RM, FM, tM, rfl, rfl, in_M, tM_ok, hw_in 586 (by decide +kernel) rfl, hw_in 587 (by decide +kernel) rfl, hw_in 4 (by decide +kernel) rfl, fun B j hj => by
  rcases (show j = 0 ∨ j = 1 ∨ j = 2 ∨ j = 3 ∨ j = 4 ∨ j = 5 ∨ j = 6 ∨ j = 7 ∨ j = 8 ∨ j = 9 ∨ j = 10 ∨ j = 11 ∨ j = 12 ∨ j = 13 ∨ j = 14 ∨ j = 15 ∨ j = 16 ∨ j = 17 ∨ j = 18 ∨ j = 19 ∨ j = 20 ∨ j = 21 ∨ j = 22 ∨ j = 23 ∨ j = 24 ∨ j = 25 ∨ j = 26 ∨ j = 27 ∨ j = 28 ∨ j = 29 ∨ j = 30 by omega) with rfl | rfl | rfl | rfl | rfl | rfl | rfl | rfl | rfl | rfl | rfl | rfl | rfl | rfl | rfl | rfl | rfl | rfl | rfl | rfl | rfl | rfl | rfl | rfl | rfl | rfl | rfl | rfl | rfl | rfl | rfl <;> first | rfl | exact (hw_rdn (show (-1 : Int32) < 0 by decide)).symm⟩
theorem ac_int : Cond.arrayClass .int ∈ hw_TS := hw_in 44 (by decide +kernel) rfl
theorem ac_boolean : Cond.arrayClass .boolean ∈ hw_TS := hw_in 45 (by decide +kernel) rfl
theorem ac_char : Cond.arrayClass .char ∈ hw_TS := hw_in 46 (by decide +kernel) rfl
theorem ac_long : Cond.arrayClass .long ∈ hw_TS := hw_in 822 (by decide +kernel) rfl
theorem ao_User : Cond.arrayOver (.object "TicketHouse$User") ∈ hw_TS := hw_in 25 (by decide +kernel) rfl
theorem ao_Text : Cond.arrayOver (.object "TicketHouse$Text") ∈ hw_TS := hw_in 53 (by decide +kernel) rfl
theorem ao_Session : Cond.arrayOver (.object "TicketHouse$Session") ∈ hw_TS := hw_in 27 (by decide +kernel) rfl
theorem ao_Ticket : Cond.arrayOver (.object "TicketHouse$Ticket") ∈ hw_TS := hw_in 29 (by decide +kernel) rfl
theorem in_IAE : Cond.initialized "java/lang/IllegalArgumentException" ∈ hw_TS := hw_in 8 (by decide +kernel) rfl
theorem ca_IAE : Cond.castable "java/lang/IllegalArgumentException" "java/lang/IllegalArgumentException" ∈ hw_TS := hw_in 172 (by decide +kernel) rfl
theorem at_IAE : ∀ w ∈ vx_atS "TicketHouse" 55 "java/lang/IllegalArgumentException" ["java/lang/RuntimeException", "java/lang/Exception"], w ∈ hw_TS := by decide +kernel
theorem go_IAE : ∀ w ∈ Cond.classLink "TicketHouse" 51 "java/lang/IllegalArgumentException" :: Cond.initialized "java/lang/IllegalArgumentException" :: vx_atS "TicketHouse" 55 "java/lang/IllegalArgumentException" ["java/lang/RuntimeException", "java/lang/Exception"], vx_ot w = true := by decide +kernel
theorem in_ISE : Cond.initialized "java/lang/IllegalStateException" ∈ hw_TS := hw_in 9 (by decide +kernel) rfl
theorem ca_ISE : Cond.castable "java/lang/IllegalStateException" "java/lang/IllegalStateException" ∈ hw_TS := hw_in 239 (by decide +kernel) rfl
theorem at_ISE : ∀ w ∈ vx_atS "TicketHouse" 66 "java/lang/IllegalStateException" ["java/lang/RuntimeException", "java/lang/Exception"], w ∈ hw_TS := by decide +kernel
theorem go_ISE : ∀ w ∈ Cond.classLink "TicketHouse" 62 "java/lang/IllegalStateException" :: Cond.initialized "java/lang/IllegalStateException" :: vx_atS "TicketHouse" 66 "java/lang/IllegalStateException" ["java/lang/RuntimeException", "java/lang/Exception"], vx_ot w = true := by decide +kernel
