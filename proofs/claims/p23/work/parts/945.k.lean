/-! ===== what the makers run through, written by wip/gen/gmake.py ===== -/
def sya0_1 (pc : Nat) : Option syO := (cond (Nat.blt pc 1) (cond (Nat.beq pc 0) (some (.aload_n 0, 1, [])) none) (cond (Nat.beq pc 1) (some (.invokespecial 1, 3, [6, 0, 0, 0, 0])) none))
def sya0_2 (pc : Nat) : Option syO := (cond (Nat.blt pc 5) (cond (Nat.beq pc 4) (some (.aload_n 0, 1, [])) none) (cond (Nat.beq pc 5) (some (.new 7, 3, [3, 7])) none))
def sya0_3 (pc : Nat) : Option syO := (cond (Nat.blt pc 9) (cond (Nat.beq pc 8) (some (.dup, 1, [])) none) (cond (Nat.beq pc 9) (some (.invokespecial 9, 3, [5, 1, 0, 3, 1])) none))
def sya0_4 (pc : Nat) : Option syO := (cond (Nat.blt pc 15) (cond (Nat.beq pc 12) (some (.putfield 10, 3, [7, 0, 1])) none) (cond (Nat.beq pc 15) (some (.aload_n 0, 1, [])) none))
def sya0_5 (pc : Nat) : Option syO := (cond (Nat.blt pc 18) (cond (Nat.beq pc 16) (some (.bipush 6, 2, [])) none) (cond (Nat.beq pc 18) (some (.anewarray 16, 3, [1, 22])) none))
def sya0_6 (pc : Nat) : Option syO := (cond (Nat.blt pc 24) (cond (Nat.beq pc 21) (some (.putfield 18, 3, [7, 1, 1])) none) (cond (Nat.beq pc 24) (some (.iconst 0, 1, [])) none))
def sya0_7 (pc : Nat) : Option syO := (cond (Nat.blt pc 12) (cond (Nat.blt pc 4) (sya0_1 pc) (cond (Nat.blt pc 8) (sya0_2 pc) (sya0_3 pc))) (cond (Nat.blt pc 16) (sya0_4 pc) (cond (Nat.blt pc 21) (sya0_5 pc) (sya0_6 pc))))
def sya0_8 (pc : Nat) : Option syO := (cond (Nat.blt pc 26) (cond (Nat.beq pc 25) (some (.istore_n 1, 1, [])) none) (cond (Nat.beq pc 26) (some (.iload_n 1, 1, [])) none))
def sya0_9 (pc : Nat) : Option syO := (cond (Nat.blt pc 29) (cond (Nat.beq pc 27) (some (.bipush 6, 2, [])) none) (cond (Nat.beq pc 29) (some (.if_icmp .ge 22, 3, [51])) none))
def sya0_10 (pc : Nat) : Option syO := (cond (Nat.blt pc 33) (cond (Nat.beq pc 32) (some (.aload_n 0, 1, [])) none) (cond (Nat.beq pc 33) (some (.getfield 18, 3, [7, 1, 1])) none))
def sya0_11 (pc : Nat) : Option syO := (cond (Nat.blt pc 37) (cond (Nat.beq pc 36) (some (.iload_n 1, 1, [])) none) (cond (Nat.beq pc 37) (some (.new 16, 3, [1, 8])) none))
def sya0_12 (pc : Nat) : Option syO := (cond (Nat.blt pc 41) (cond (Nat.beq pc 40) (some (.dup, 1, [])) none) (cond (Nat.beq pc 41) (some (.invokespecial 22, 3, [5, 2, 0, 1, 1])) none))
def sya0_13 (pc : Nat) : Option syO := (cond (Nat.blt pc 45) (cond (Nat.beq pc 44) (some (.aastore, 1, [])) none) (cond (Nat.beq pc 45) (some (.iinc 1 1, 3, [])) none))
def sya0_14 (pc : Nat) : Option syO := (cond (Nat.blt pc 36) (cond (Nat.blt pc 27) (sya0_8 pc) (cond (Nat.blt pc 32) (sya0_9 pc) (sya0_10 pc))) (cond (Nat.blt pc 40) (sya0_11 pc) (cond (Nat.blt pc 44) (sya0_12 pc) (sya0_13 pc))))
def sya0_15 (pc : Nat) : Option syO := (cond (Nat.blt pc 51) (cond (Nat.beq pc 48) (some (.goto (-22), 3, [26])) none) (cond (Nat.beq pc 51) (some (.aload_n 0, 1, [])) none))
def sya0_16 (pc : Nat) : Option syO := (cond (Nat.blt pc 55) (cond (Nat.beq pc 52) (some (.new 23, 3, [0, 4])) none) (cond (Nat.beq pc 55) (some (.dup, 1, [])) none))
def sya0_17 (pc : Nat) : Option syO := (cond (Nat.blt pc 59) (cond (Nat.beq pc 56) (some (.sipush 240, 3, [])) none) (cond (Nat.beq pc 59) (some (.invokespecial 25, 3, [2, 3, 1, 0, 3])) none))
def sya0_18 (pc : Nat) : Option syO := (cond (Nat.blt pc 65) (cond (Nat.beq pc 62) (some (.putfield 28, 3, [7, 3, 1])) none) (cond (Nat.beq pc 65) (some (.aload_n 0, 1, [])) none))
def sya0_19 (pc : Nat) : Option syO := (cond (Nat.blt pc 69) (cond (Nat.beq pc 66) (some (.new 32, 3, [6, 4])) none) (cond (Nat.beq pc 69) (some (.dup, 1, [])) none))
def sya0_20 (pc : Nat) : Option syO := (cond (Nat.blt pc 71) (cond (Nat.beq pc 70) (some (.aload_n 0, 1, [])) none) (cond (Nat.blt pc 74) (cond (Nat.beq pc 71) (some (.getfield 18, 3, [7, 1, 1])) none) (cond (Nat.beq pc 74) (some (.aload_n 0, 1, [])) none)))
def sya0_21 (pc : Nat) : Option syO := (cond (Nat.blt pc 62) (cond (Nat.blt pc 52) (sya0_15 pc) (cond (Nat.blt pc 56) (sya0_16 pc) (sya0_17 pc))) (cond (Nat.blt pc 66) (sya0_18 pc) (cond (Nat.blt pc 70) (sya0_19 pc) (sya0_20 pc))))
def sya0_22 (pc : Nat) : Option syO := (cond (Nat.blt pc 78) (cond (Nat.beq pc 75) (some (.getfield 28, 3, [7, 3, 1])) none) (cond (Nat.beq pc 78) (some (.invokespecial 34, 3, [2, 4, 2, 6, 4])) none))
def sya0_23 (pc : Nat) : Option syO := (cond (Nat.blt pc 84) (cond (Nat.beq pc 81) (some (.putfield 37, 3, [7, 4, 1])) none) (cond (Nat.beq pc 84) (some (.aload_n 0, 1, [])) none))
def sya0_24 (pc : Nat) : Option syO := (cond (Nat.blt pc 88) (cond (Nat.beq pc 85) (some (.new 32, 3, [6, 4])) none) (cond (Nat.beq pc 88) (some (.dup, 1, [])) none))
def sya0_25 (pc : Nat) : Option syO := (cond (Nat.blt pc 90) (cond (Nat.beq pc 89) (some (.aload_n 0, 1, [])) none) (cond (Nat.beq pc 90) (some (.getfield 18, 3, [7, 1, 1])) none))
def sya0_26 (pc : Nat) : Option syO := (cond (Nat.blt pc 96) (cond (Nat.beq pc 93) (some (.new 23, 3, [0, 4])) none) (cond (Nat.beq pc 96) (some (.dup, 1, [])) none))
def sya0_27 (pc : Nat) : Option syO := (cond (Nat.blt pc 98) (cond (Nat.beq pc 97) (some (.iconst 0, 1, [])) none) (cond (Nat.beq pc 98) (some (.invokespecial 25, 3, [2, 3, 1, 0, 3])) none))
def sya0_28 (pc : Nat) : Option syO := (cond (Nat.blt pc 89) (cond (Nat.blt pc 81) (sya0_22 pc) (cond (Nat.blt pc 85) (sya0_23 pc) (sya0_24 pc))) (cond (Nat.blt pc 93) (sya0_25 pc) (cond (Nat.blt pc 97) (sya0_26 pc) (sya0_27 pc))))
def sya0_29 (pc : Nat) : Option syO := (cond (Nat.blt pc 104) (cond (Nat.beq pc 101) (some (.invokespecial 34, 3, [2, 4, 2, 6, 4])) none) (cond (Nat.beq pc 104) (some (.putfield 41, 3, [7, 5, 1])) none))
def sya0_30 (pc : Nat) : Option syO := (cond (Nat.blt pc 108) (cond (Nat.beq pc 107) (some (.aload_n 0, 1, [])) none) (cond (Nat.beq pc 108) (some (.iconst 4, 1, [])) none))
def sya0_31 (pc : Nat) : Option syO := (cond (Nat.blt pc 112) (cond (Nat.beq pc 109) (some (.anewarray 44, 3, [4, 24])) none) (cond (Nat.beq pc 112) (some (.putfield 46, 3, [7, 6, 1])) none))
def sya0_32 (pc : Nat) : Option syO := (cond (Nat.blt pc 116) (cond (Nat.beq pc 115) (some (.iconst 0, 1, [])) none) (cond (Nat.beq pc 116) (some (.istore_n 1, 1, [])) none))
def sya0_33 (pc : Nat) : Option syO := (cond (Nat.blt pc 118) (cond (Nat.beq pc 117) (some (.iload_n 1, 1, [])) none) (cond (Nat.beq pc 118) (some (.iconst 4, 1, [])) none))
def sya0_34 (pc : Nat) : Option syO := (cond (Nat.blt pc 122) (cond (Nat.beq pc 119) (some (.if_icmp .ge 22, 3, [141])) none) (cond (Nat.beq pc 122) (some (.aload_n 0, 1, [])) none))
def sya0_35 (pc : Nat) : Option syO := (cond (Nat.blt pc 115) (cond (Nat.blt pc 107) (sya0_29 pc) (cond (Nat.blt pc 109) (sya0_30 pc) (sya0_31 pc))) (cond (Nat.blt pc 117) (sya0_32 pc) (cond (Nat.blt pc 119) (sya0_33 pc) (sya0_34 pc))))
def sya0_36 (pc : Nat) : Option syO := (cond (Nat.blt pc 126) (cond (Nat.beq pc 123) (some (.getfield 46, 3, [7, 6, 1])) none) (cond (Nat.beq pc 126) (some (.iload_n 1, 1, [])) none))
def sya0_37 (pc : Nat) : Option syO := (cond (Nat.blt pc 130) (cond (Nat.beq pc 127) (some (.new 44, 3, [4, 3])) none) (cond (Nat.beq pc 130) (some (.dup, 1, [])) none))
def sya0_38 (pc : Nat) : Option syO := (cond (Nat.blt pc 134) (cond (Nat.beq pc 131) (some (.invokespecial 50, 3, [5, 8, 0, 4, 1])) none) (cond (Nat.beq pc 134) (some (.aastore, 1, [])) none))
def sya0_39 (pc : Nat) : Option syO := (cond (Nat.blt pc 138) (cond (Nat.beq pc 135) (some (.iinc 1 1, 3, [])) none) (cond (Nat.beq pc 138) (some (.goto (-21), 3, [117])) none))
def sya0_40 (pc : Nat) : Option syO := (cond (Nat.blt pc 142) (cond (Nat.beq pc 141) (some (.aload_n 0, 1, [])) none) (cond (Nat.beq pc 142) (some (.sipush 4096, 3, [])) none))
def sya0_41 (pc : Nat) : Option syO := (cond (Nat.blt pc 147) (cond (Nat.beq pc 145) (some (.newarray .long, 2, [0, 21])) none) (cond (Nat.blt pc 150) (cond (Nat.beq pc 147) (some (.putfield 51, 3, [7, 7, 1])) none) (cond (Nat.beq pc 150) (some (.return_, 1, [])) none)))
def sya0_42 (pc : Nat) : Option syO := (cond (Nat.blt pc 135) (cond (Nat.blt pc 127) (sya0_36 pc) (cond (Nat.blt pc 131) (sya0_37 pc) (sya0_38 pc))) (cond (Nat.blt pc 141) (sya0_39 pc) (cond (Nat.blt pc 145) (sya0_40 pc) (sya0_41 pc))))
def sya0 (pc : Nat) : Option syO := (cond (Nat.blt pc 75) (cond (Nat.blt pc 25) (sya0_7 pc) (cond (Nat.blt pc 48) (sya0_14 pc) (sya0_21 pc))) (cond (Nat.blt pc 101) (sya0_28 pc) (cond (Nat.blt pc 123) (sya0_35 pc) (sya0_42 pc))))
def sya1_1 (pc : Nat) : Option syO := (cond (Nat.beq pc 0) (some (.aload_n 0, 1, [])) none)
def sya1_2 (pc : Nat) : Option syO := (cond (Nat.beq pc 1) (some (.invokespecial 3, 3, [6, 0, 0, 0, 0])) none)
def sya1_3 (pc : Nat) : Option syO := (cond (Nat.beq pc 4) (some (.aload_n 0, 1, [])) none)
def sya1_4 (pc : Nat) : Option syO := (cond (Nat.beq pc 5) (some (.bipush 120, 2, [])) none)
def sya1_5 (pc : Nat) : Option syO := (cond (Nat.beq pc 7) (some (.newarray .int, 2, [0, 20])) none)
def sya1_6 (pc : Nat) : Option syO := (cond (Nat.blt pc 12) (cond (Nat.beq pc 9) (some (.putfield 9, 3, [3, 0, 1])) none) (cond (Nat.beq pc 12) (some (.return_, 1, [])) none))
def sya1 (pc : Nat) : Option syO := (cond (Nat.blt pc 5) (cond (Nat.blt pc 1) (sya1_1 pc) (cond (Nat.blt pc 4) (sya1_2 pc) (sya1_3 pc))) (cond (Nat.blt pc 7) (sya1_4 pc) (cond (Nat.blt pc 9) (sya1_5 pc) (sya1_6 pc))))
def sya2_1 (pc : Nat) : Option syO := (cond (Nat.blt pc 4) (cond (Nat.blt pc 1) (cond (Nat.beq pc 0) (some (.aload_n 0, 1, [])) none) (cond (Nat.beq pc 1) (some (.invokespecial 3, 3, [6, 0, 0, 0, 0])) none)) (cond (Nat.blt pc 5) (cond (Nat.beq pc 4) (some (.aload_n 0, 1, [])) none) (cond (Nat.blt pc 7) (cond (Nat.beq pc 5) (some (.bipush 12, 2, [])) none) (cond (Nat.beq pc 7) (some (.newarray .int, 2, [0, 20])) none))))
def sya2_2 (pc : Nat) : Option syO := (cond (Nat.blt pc 13) (cond (Nat.blt pc 12) (cond (Nat.beq pc 9) (some (.putfield 9, 3, [1, 0, 1])) none) (cond (Nat.beq pc 12) (some (.aload_n 0, 1, [])) none)) (cond (Nat.blt pc 15) (cond (Nat.beq pc 13) (some (.bipush 12, 2, [])) none) (cond (Nat.blt pc 17) (cond (Nat.beq pc 15) (some (.newarray .int, 2, [0, 20])) none) (cond (Nat.beq pc 17) (some (.putfield 15, 3, [1, 1, 1])) none))))
def sya2_3 (pc : Nat) : Option syO := (cond (Nat.blt pc 23) (cond (Nat.blt pc 21) (cond (Nat.beq pc 20) (some (.aload_n 0, 1, [])) none) (cond (Nat.beq pc 21) (some (.bipush 12, 2, [])) none)) (cond (Nat.blt pc 25) (cond (Nat.beq pc 23) (some (.newarray .int, 2, [0, 20])) none) (cond (Nat.blt pc 28) (cond (Nat.beq pc 25) (some (.putfield 18, 3, [1, 2, 1])) none) (cond (Nat.beq pc 28) (some (.aload_n 0, 1, [])) none))))
def sya2_4 (pc : Nat) : Option syO := (cond (Nat.blt pc 33) (cond (Nat.blt pc 31) (cond (Nat.beq pc 29) (some (.bipush 12, 2, [])) none) (cond (Nat.beq pc 31) (some (.newarray .int, 2, [0, 20])) none)) (cond (Nat.blt pc 36) (cond (Nat.beq pc 33) (some (.putfield 21, 3, [1, 3, 1])) none) (cond (Nat.blt pc 37) (cond (Nat.beq pc 36) (some (.aload_n 0, 1, [])) none) (cond (Nat.beq pc 37) (some (.bipush 12, 2, [])) none))))
def sya2_5 (pc : Nat) : Option syO := (cond (Nat.blt pc 44) (cond (Nat.blt pc 41) (cond (Nat.beq pc 39) (some (.newarray .int, 2, [0, 20])) none) (cond (Nat.beq pc 41) (some (.putfield 24, 3, [1, 4, 1])) none)) (cond (Nat.blt pc 45) (cond (Nat.beq pc 44) (some (.aload_n 0, 1, [])) none) (cond (Nat.blt pc 47) (cond (Nat.beq pc 45) (some (.bipush 12, 2, [])) none) (cond (Nat.beq pc 47) (some (.newarray .int, 2, [0, 20])) none))))
def sya2_6 (pc : Nat) : Option syO := (cond (Nat.blt pc 53) (cond (Nat.blt pc 52) (cond (Nat.beq pc 49) (some (.putfield 27, 3, [1, 5, 1])) none) (cond (Nat.beq pc 52) (some (.aload_n 0, 1, [])) none)) (cond (Nat.blt pc 54) (cond (Nat.beq pc 53) (some (.iconst (-1), 1, [])) none) (cond (Nat.blt pc 57) (cond (Nat.beq pc 54) (some (.putfield 30, 3, [1, 7, 0])) none) (cond (Nat.beq pc 57) (some (.return_, 1, [])) none))))
def sya2 (pc : Nat) : Option syO := (cond (Nat.blt pc 29) (cond (Nat.blt pc 9) (sya2_1 pc) (cond (Nat.blt pc 20) (sya2_2 pc) (sya2_3 pc))) (cond (Nat.blt pc 39) (sya2_4 pc) (cond (Nat.blt pc 49) (sya2_5 pc) (sya2_6 pc))))
def sya3_1 (pc : Nat) : Option syO := (cond (Nat.blt pc 1) (cond (Nat.beq pc 0) (some (.aload_n 0, 1, [])) none) (cond (Nat.blt pc 4) (cond (Nat.beq pc 1) (some (.invokespecial 1, 3, [6, 0, 0, 0, 0])) none) (cond (Nat.beq pc 4) (some (.iconst 0, 1, [])) none)))
def sya3_2 (pc : Nat) : Option syO := (cond (Nat.blt pc 6) (cond (Nat.beq pc 5) (some (.iload_n 1, 1, [])) none) (cond (Nat.blt pc 9) (cond (Nat.beq pc 6) (some (.invokestatic 7, 3, [10, 0, 0, 0, 0])) none) (cond (Nat.beq pc 9) (some (.istore_n 2, 1, [])) none)))
def sya3_3 (pc : Nat) : Option syO := (cond (Nat.blt pc 11) (cond (Nat.beq pc 10) (some (.aload_n 0, 1, [])) none) (cond (Nat.blt pc 12) (cond (Nat.beq pc 11) (some (.iload_n 2, 1, [])) none) (cond (Nat.beq pc 12) (some (.newarray .int, 2, [0, 20])) none)))
def sya3_4 (pc : Nat) : Option syO := (cond (Nat.blt pc 17) (cond (Nat.beq pc 14) (some (.putfield 13, 3, [0, 0, 1])) none) (cond (Nat.blt pc 18) (cond (Nat.beq pc 17) (some (.aload_n 0, 1, [])) none) (cond (Nat.beq pc 18) (some (.iload_n 2, 1, [])) none)))
def sya3_5 (pc : Nat) : Option syO := (cond (Nat.blt pc 21) (cond (Nat.beq pc 19) (some (.newarray .int, 2, [0, 20])) none) (cond (Nat.blt pc 24) (cond (Nat.beq pc 21) (some (.putfield 19, 3, [0, 1, 1])) none) (cond (Nat.beq pc 24) (some (.aload_n 0, 1, [])) none)))
def sya3_6 (pc : Nat) : Option syO := (cond (Nat.blt pc 28) (cond (Nat.blt pc 26) (cond (Nat.beq pc 25) (some (.iload_n 2, 1, [])) none) (cond (Nat.beq pc 26) (some (.newarray .int, 2, [0, 20])) none)) (cond (Nat.blt pc 31) (cond (Nat.beq pc 28) (some (.putfield 22, 3, [0, 2, 1])) none) (cond (Nat.beq pc 31) (some (.return_, 1, [])) none)))
def sya3 (pc : Nat) : Option syO := (cond (Nat.blt pc 14) (cond (Nat.blt pc 5) (sya3_1 pc) (cond (Nat.blt pc 10) (sya3_2 pc) (sya3_3 pc))) (cond (Nat.blt pc 19) (sya3_4 pc) (cond (Nat.blt pc 25) (sya3_5 pc) (sya3_6 pc))))
def sya4_1 (pc : Nat) : Option syO := (cond (Nat.blt pc 4) (cond (Nat.blt pc 1) (cond (Nat.beq pc 0) (some (.aload_n 0, 1, [])) none) (cond (Nat.beq pc 1) (some (.invokespecial 3, 3, [6, 0, 0, 0, 0])) none)) (cond (Nat.blt pc 5) (cond (Nat.beq pc 4) (some (.aload_n 0, 1, [])) none) (cond (Nat.blt pc 8) (cond (Nat.beq pc 5) (some (.new 9, 3, [2, 3])) none) (cond (Nat.beq pc 8) (some (.dup, 1, [])) none))))
def sya4_2 (pc : Nat) : Option syO := (cond (Nat.blt pc 15) (cond (Nat.blt pc 12) (cond (Nat.beq pc 9) (some (.invokespecial 11, 3, [2, 5, 0, 2, 1])) none) (cond (Nat.beq pc 12) (some (.putfield 12, 3, [6, 2, 1])) none)) (cond (Nat.blt pc 16) (cond (Nat.beq pc 15) (some (.aload_n 0, 1, [])) none) (cond (Nat.blt pc 17) (cond (Nat.beq pc 16) (some (.iconst 3, 1, [])) none) (cond (Nat.beq pc 17) (some (.anewarray 18, 3, [5, 23])) none))))
def sya4_3 (pc : Nat) : Option syO := (cond (Nat.blt pc 25) (cond (Nat.blt pc 23) (cond (Nat.beq pc 20) (some (.putfield 20, 3, [6, 3, 1])) none) (cond (Nat.blt pc 24) (cond (Nat.beq pc 23) (some (.aload_n 0, 1, [])) none) (cond (Nat.beq pc 24) (some (.aload_n 1, 1, [])) none))) (cond (Nat.blt pc 28) (cond (Nat.beq pc 25) (some (.putfield 24, 3, [6, 0, 1])) none) (cond (Nat.blt pc 29) (cond (Nat.beq pc 28) (some (.aload_n 0, 1, [])) none) (cond (Nat.beq pc 29) (some (.aload_n 2, 1, [])) none))))
def sya4_4 (pc : Nat) : Option syO := (cond (Nat.blt pc 34) (cond (Nat.blt pc 33) (cond (Nat.beq pc 30) (some (.putfield 28, 3, [6, 1, 1])) none) (cond (Nat.beq pc 33) (some (.iconst 0, 1, [])) none)) (cond (Nat.blt pc 35) (cond (Nat.beq pc 34) (some (.istore_n 3, 1, [])) none) (cond (Nat.blt pc 36) (cond (Nat.beq pc 35) (some (.iload_n 3, 1, [])) none) (cond (Nat.beq pc 36) (some (.iconst 3, 1, [])) none))))
def sya4_5 (pc : Nat) : Option syO := (cond (Nat.blt pc 41) (cond (Nat.blt pc 40) (cond (Nat.beq pc 37) (some (.if_icmp .ge 22, 3, [59])) none) (cond (Nat.beq pc 40) (some (.aload_n 0, 1, [])) none)) (cond (Nat.blt pc 44) (cond (Nat.beq pc 41) (some (.getfield 20, 3, [6, 3, 1])) none) (cond (Nat.blt pc 45) (cond (Nat.beq pc 44) (some (.iload_n 3, 1, [])) none) (cond (Nat.beq pc 45) (some (.new 18, 3, [5, 14])) none))))
def sya4_6 (pc : Nat) : Option syO := (cond (Nat.blt pc 53) (cond (Nat.blt pc 49) (cond (Nat.beq pc 48) (some (.dup, 1, [])) none) (cond (Nat.blt pc 52) (cond (Nat.beq pc 49) (some (.invokespecial 32, 3, [5, 7, 0, 5, 1])) none) (cond (Nat.beq pc 52) (some (.aastore, 1, [])) none))) (cond (Nat.blt pc 56) (cond (Nat.beq pc 53) (some (.iinc 3 1, 3, [])) none) (cond (Nat.blt pc 59) (cond (Nat.beq pc 56) (some (.goto (-21), 3, [35])) none) (cond (Nat.beq pc 59) (some (.return_, 1, [])) none))))
def sya4 (pc : Nat) : Option syO := (cond (Nat.blt pc 30) (cond (Nat.blt pc 9) (sya4_1 pc) (cond (Nat.blt pc 20) (sya4_2 pc) (sya4_3 pc))) (cond (Nat.blt pc 37) (sya4_4 pc) (cond (Nat.blt pc 48) (sya4_5 pc) (sya4_6 pc))))
def sya5_1 (pc : Nat) : Option syO := (cond (Nat.beq pc 0) (some (.aload_n 0, 1, [])) none)
def sya5_2 (pc : Nat) : Option syO := (cond (Nat.blt pc 4) (cond (Nat.beq pc 1) (some (.invokespecial 3, 3, [6, 0, 0, 0, 0])) none) (cond (Nat.beq pc 4) (some (.aload_n 0, 1, [])) none))
def sya5_3 (pc : Nat) : Option syO := (cond (Nat.blt pc 7) (cond (Nat.beq pc 5) (some (.bipush 6, 2, [])) none) (cond (Nat.beq pc 7) (some (.newarray .int, 2, [0, 20])) none))
def sya5_4 (pc : Nat) : Option syO := (cond (Nat.blt pc 12) (cond (Nat.beq pc 9) (some (.putfield 9, 3, [2, 0, 1])) none) (cond (Nat.beq pc 12) (some (.aload_n 0, 1, [])) none))
def sya5_5 (pc : Nat) : Option syO := (cond (Nat.blt pc 16) (cond (Nat.beq pc 13) (some (.getfield 9, 3, [2, 0, 1])) none) (cond (Nat.beq pc 16) (some (.bipush 100, 2, [])) none))
def sya5_6 (pc : Nat) : Option syO := (cond (Nat.blt pc 21) (cond (Nat.beq pc 18) (some (.invokestatic 15, 3, [1, 6, 2, 12, 4])) none) (cond (Nat.beq pc 21) (some (.return_, 1, [])) none))
def sya5 (pc : Nat) : Option syO := (cond (Nat.blt pc 9) (cond (Nat.blt pc 1) (sya5_1 pc) (cond (Nat.blt pc 5) (sya5_2 pc) (sya5_3 pc))) (cond (Nat.blt pc 13) (sya5_4 pc) (cond (Nat.blt pc 18) (sya5_5 pc) (sya5_6 pc))))
def sya6_1 (pc : Nat) : Option syO := (cond (Nat.blt pc 1) (cond (Nat.beq pc 0) (some (.iconst 0, 1, [])) none) (cond (Nat.beq pc 1) (some (.istore_n 2, 1, [])) none))
def sya6_2 (pc : Nat) : Option syO := (cond (Nat.blt pc 3) (cond (Nat.beq pc 2) (some (.aload_n 0, 1, [])) none) (cond (Nat.blt pc 4) (cond (Nat.beq pc 3) (some (.arraylength, 1, [])) none) (cond (Nat.beq pc 4) (some (.istore_n 3, 1, [])) none)))
def sya6_3 (pc : Nat) : Option syO := (cond (Nat.blt pc 6) (cond (Nat.beq pc 5) (some (.iload_n 2, 1, [])) none) (cond (Nat.beq pc 6) (some (.iload_n 3, 1, [])) none))
def sya6_4 (pc : Nat) : Option syO := (cond (Nat.blt pc 10) (cond (Nat.beq pc 7) (some (.if_icmp .ge 13, 3, [20])) none) (cond (Nat.blt pc 11) (cond (Nat.beq pc 10) (some (.aload_n 0, 1, [])) none) (cond (Nat.beq pc 11) (some (.iload_n 2, 1, [])) none)))
def sya6_5 (pc : Nat) : Option syO := (cond (Nat.blt pc 13) (cond (Nat.beq pc 12) (some (.iload_n 1, 1, [])) none) (cond (Nat.beq pc 13) (some (.iastore, 1, [])) none))
def sya6_6 (pc : Nat) : Option syO := (cond (Nat.blt pc 17) (cond (Nat.beq pc 14) (some (.iinc 2 1, 3, [])) none) (cond (Nat.blt pc 20) (cond (Nat.beq pc 17) (some (.goto (-12), 3, [5])) none) (cond (Nat.beq pc 20) (some (.return_, 1, [])) none)))
def sya6 (pc : Nat) : Option syO := (cond (Nat.blt pc 7) (cond (Nat.blt pc 2) (sya6_1 pc) (cond (Nat.blt pc 5) (sya6_2 pc) (sya6_3 pc))) (cond (Nat.blt pc 12) (sya6_4 pc) (cond (Nat.blt pc 14) (sya6_5 pc) (sya6_6 pc))))
def sya7_1 (pc : Nat) : Option syO := (cond (Nat.blt pc 5) (cond (Nat.blt pc 1) (cond (Nat.beq pc 0) (some (.aload_n 0, 1, [])) none) (cond (Nat.blt pc 4) (cond (Nat.beq pc 1) (some (.invokespecial 3, 3, [6, 0, 0, 0, 0])) none) (cond (Nat.beq pc 4) (some (.aload_n 0, 1, [])) none))) (cond (Nat.blt pc 6) (cond (Nat.beq pc 5) (some (.iconst 0, 1, [])) none) (cond (Nat.blt pc 9) (cond (Nat.beq pc 6) (some (.putfield 9, 3, [5, 0, 0])) none) (cond (Nat.beq pc 9) (some (.aload_n 0, 1, [])) none))))
def sya7_2 (pc : Nat) : Option syO := (cond (Nat.blt pc 15) (cond (Nat.blt pc 11) (cond (Nat.beq pc 10) (some (.iconst (-1), 1, [])) none) (cond (Nat.blt pc 14) (cond (Nat.beq pc 11) (some (.putfield 15, 3, [5, 1, 0])) none) (cond (Nat.beq pc 14) (some (.aload_n 0, 1, [])) none))) (cond (Nat.blt pc 17) (cond (Nat.beq pc 15) (some (.bipush 12, 2, [])) none) (cond (Nat.blt pc 19) (cond (Nat.beq pc 17) (some (.newarray .int, 2, [0, 20])) none) (cond (Nat.beq pc 19) (some (.putfield 18, 3, [5, 6, 1])) none))))
def sya7_3 (pc : Nat) : Option syO := (cond (Nat.blt pc 27) (cond (Nat.blt pc 23) (cond (Nat.beq pc 22) (some (.aload_n 0, 1, [])) none) (cond (Nat.blt pc 25) (cond (Nat.beq pc 23) (some (.bipush 12, 2, [])) none) (cond (Nat.beq pc 25) (some (.newarray .int, 2, [0, 20])) none))) (cond (Nat.blt pc 30) (cond (Nat.beq pc 27) (some (.putfield 22, 3, [5, 8, 1])) none) (cond (Nat.blt pc 31) (cond (Nat.beq pc 30) (some (.aload_n 0, 1, [])) none) (cond (Nat.beq pc 31) (some (.bipush 12, 2, [])) none))))
def sya7_4 (pc : Nat) : Option syO := (cond (Nat.blt pc 39) (cond (Nat.blt pc 35) (cond (Nat.beq pc 33) (some (.newarray .int, 2, [0, 20])) none) (cond (Nat.blt pc 38) (cond (Nat.beq pc 35) (some (.putfield 25, 3, [5, 9, 1])) none) (cond (Nat.beq pc 38) (some (.aload_n 0, 1, [])) none))) (cond (Nat.blt pc 41) (cond (Nat.beq pc 39) (some (.bipush 12, 2, [])) none) (cond (Nat.blt pc 43) (cond (Nat.beq pc 41) (some (.newarray .int, 2, [0, 20])) none) (cond (Nat.beq pc 43) (some (.putfield 28, 3, [5, 10, 1])) none))))
def sya7_5 (pc : Nat) : Option syO := (cond (Nat.blt pc 51) (cond (Nat.blt pc 47) (cond (Nat.beq pc 46) (some (.aload_n 0, 1, [])) none) (cond (Nat.blt pc 49) (cond (Nat.beq pc 47) (some (.bipush 12, 2, [])) none) (cond (Nat.beq pc 49) (some (.newarray .int, 2, [0, 20])) none))) (cond (Nat.blt pc 54) (cond (Nat.beq pc 51) (some (.putfield 31, 3, [5, 11, 1])) none) (cond (Nat.blt pc 55) (cond (Nat.beq pc 54) (some (.aload_n 0, 1, [])) none) (cond (Nat.beq pc 55) (some (.bipush 12, 2, [])) none))))
def sya7_6 (pc : Nat) : Option syO := (cond (Nat.beq pc 57) (some (.newarray .int, 2, [0, 20])) none)
def sya7_7 (pc : Nat) : Option syO := (cond (Nat.beq pc 59) (some (.putfield 34, 3, [5, 12, 1])) none)
def sya7_8 (pc : Nat) : Option syO := (cond (Nat.beq pc 62) (some (.aload_n 0, 1, [])) none)
def sya7_9 (pc : Nat) : Option syO := (cond (Nat.beq pc 63) (some (.bipush 12, 2, [])) none)
def sya7_10 (pc : Nat) : Option syO := (cond (Nat.beq pc 65) (some (.newarray .int, 2, [0, 20])) none)
def sya7_11 (pc : Nat) : Option syO := (cond (Nat.blt pc 70) (cond (Nat.beq pc 67) (some (.putfield 37, 3, [5, 13, 1])) none) (cond (Nat.beq pc 70) (some (.return_, 1, [])) none))
def sya7_12 (pc : Nat) : Option syO := (cond (Nat.blt pc 63) (cond (Nat.blt pc 59) (sya7_6 pc) (cond (Nat.blt pc 62) (sya7_7 pc) (sya7_8 pc))) (cond (Nat.blt pc 65) (sya7_9 pc) (cond (Nat.blt pc 67) (sya7_10 pc) (sya7_11 pc))))
def sya7 (pc : Nat) : Option syO := (cond (Nat.blt pc 33) (cond (Nat.blt pc 10) (sya7_1 pc) (cond (Nat.blt pc 22) (sya7_2 pc) (sya7_3 pc))) (cond (Nat.blt pc 46) (sya7_4 pc) (cond (Nat.blt pc 57) (sya7_5 pc) (sya7_12 pc))))
def sya8_1 (pc : Nat) : Option syO := (cond (Nat.beq pc 0) (some (.aload_n 0, 1, [])) none)
def sya8_2 (pc : Nat) : Option syO := (cond (Nat.blt pc 4) (cond (Nat.beq pc 1) (some (.invokespecial 3, 3, [6, 0, 0, 0, 0])) none) (cond (Nat.beq pc 4) (some (.aload_n 0, 1, [])) none))
def sya8_3 (pc : Nat) : Option syO := (cond (Nat.blt pc 6) (cond (Nat.beq pc 5) (some (.iconst (-1), 1, [])) none) (cond (Nat.beq pc 6) (some (.putfield 9, 3, [4, 0, 0])) none))
def sya8_4 (pc : Nat) : Option syO := (cond (Nat.beq pc 9) (some (.aload_n 0, 1, [])) none)
def sya8_5 (pc : Nat) : Option syO := (cond (Nat.blt pc 12) (cond (Nat.beq pc 10) (some (.bipush 40, 2, [])) none) (cond (Nat.beq pc 12) (some (.newarray .int, 2, [0, 20])) none))
def sya8_6 (pc : Nat) : Option syO := (cond (Nat.blt pc 17) (cond (Nat.beq pc 14) (some (.putfield 15, 3, [4, 2, 1])) none) (cond (Nat.beq pc 17) (some (.return_, 1, [])) none))
def sya8 (pc : Nat) : Option syO := (cond (Nat.blt pc 9) (cond (Nat.blt pc 1) (sya8_1 pc) (cond (Nat.blt pc 5) (sya8_2 pc) (sya8_3 pc))) (cond (Nat.blt pc 10) (sya8_4 pc) (cond (Nat.blt pc 14) (sya8_5 pc) (sya8_6 pc))))
def sya129_1 (pc : Nat) : Option syO := (cond (Nat.blt pc 4) (cond (Nat.blt pc 1) (cond (Nat.beq pc 0) (some (.aload_n 0, 1, [])) none) (cond (Nat.beq pc 1) (some (.invokespecial 1, 3, [6, 0, 0, 0, 0])) none)) (cond (Nat.blt pc 5) (cond (Nat.beq pc 4) (some (.aload_n 0, 1, [])) none) (cond (Nat.blt pc 7) (cond (Nat.beq pc 5) (some (.bipush 6, 2, [])) none) (cond (Nat.beq pc 7) (some (.newarray .int, 2, [0, 20])) none))))
def sya129_2 (pc : Nat) : Option syO := (cond (Nat.blt pc 15) (cond (Nat.blt pc 12) (cond (Nat.beq pc 9) (some (.putfield 9, 3, [8, 1, 1])) none) (cond (Nat.blt pc 13) (cond (Nat.beq pc 12) (some (.aload_n 0, 1, [])) none) (cond (Nat.beq pc 13) (some (.bipush 6, 2, [])) none))) (cond (Nat.blt pc 17) (cond (Nat.beq pc 15) (some (.newarray .int, 2, [0, 20])) none) (cond (Nat.blt pc 20) (cond (Nat.beq pc 17) (some (.putfield 13, 3, [8, 2, 1])) none) (cond (Nat.beq pc 20) (some (.aload_n 0, 1, [])) none))))
def sya129_3 (pc : Nat) : Option syO := (cond (Nat.blt pc 25) (cond (Nat.blt pc 23) (cond (Nat.beq pc 21) (some (.bipush 6, 2, [])) none) (cond (Nat.beq pc 23) (some (.bipush 12, 2, [])) none)) (cond (Nat.blt pc 29) (cond (Nat.beq pc 25) (some (.multianewarray 16 2, 4, [])) none) (cond (Nat.blt pc 32) (cond (Nat.beq pc 29) (some (.putfield 18, 3, [8, 3, 1])) none) (cond (Nat.beq pc 32) (some (.aload_n 0, 1, [])) none))))
def sya129_4 (pc : Nat) : Option syO := (cond (Nat.blt pc 41) (cond (Nat.blt pc 35) (cond (Nat.beq pc 33) (some (.bipush 6, 2, [])) none) (cond (Nat.blt pc 37) (cond (Nat.beq pc 35) (some (.bipush 12, 2, [])) none) (cond (Nat.beq pc 37) (some (.multianewarray 16 2, 4, [])) none))) (cond (Nat.blt pc 44) (cond (Nat.beq pc 41) (some (.putfield 21, 3, [8, 4, 1])) none) (cond (Nat.blt pc 45) (cond (Nat.beq pc 44) (some (.aload_n 0, 1, [])) none) (cond (Nat.beq pc 45) (some (.bipush 6, 2, [])) none))))
def sya129_5 (pc : Nat) : Option syO := (cond (Nat.blt pc 53) (cond (Nat.blt pc 49) (cond (Nat.beq pc 47) (some (.bipush 12, 2, [])) none) (cond (Nat.beq pc 49) (some (.multianewarray 16 2, 4, [])) none)) (cond (Nat.blt pc 56) (cond (Nat.beq pc 53) (some (.putfield 24, 3, [8, 5, 1])) none) (cond (Nat.blt pc 57) (cond (Nat.beq pc 56) (some (.aload_n 0, 1, [])) none) (cond (Nat.beq pc 57) (some (.bipush 6, 2, [])) none))))
def sya129_6 (pc : Nat) : Option syO := (cond (Nat.blt pc 68) (cond (Nat.blt pc 61) (cond (Nat.beq pc 59) (some (.bipush 12, 2, [])) none) (cond (Nat.blt pc 65) (cond (Nat.beq pc 61) (some (.multianewarray 16 2, 4, [])) none) (cond (Nat.beq pc 65) (some (.putfield 27, 3, [8, 6, 1])) none))) (cond (Nat.blt pc 69) (cond (Nat.beq pc 68) (some (.aload_n 0, 1, [])) none) (cond (Nat.blt pc 71) (cond (Nat.beq pc 69) (some (.bipush 6, 2, [])) none) (cond (Nat.beq pc 71) (some (.bipush 12, 2, [])) none))))
def sya129_7 (pc : Nat) : Option syO := (cond (Nat.blt pc 33) (cond (Nat.blt pc 9) (sya129_1 pc) (cond (Nat.blt pc 21) (sya129_2 pc) (sya129_3 pc))) (cond (Nat.blt pc 47) (sya129_4 pc) (cond (Nat.blt pc 59) (sya129_5 pc) (sya129_6 pc))))
def sya129_8 (pc : Nat) : Option syO := (cond (Nat.blt pc 80) (cond (Nat.blt pc 77) (cond (Nat.beq pc 73) (some (.multianewarray 16 2, 4, [])) none) (cond (Nat.beq pc 77) (some (.putfield 30, 3, [8, 7, 1])) none)) (cond (Nat.blt pc 81) (cond (Nat.beq pc 80) (some (.aload_n 0, 1, [])) none) (cond (Nat.blt pc 83) (cond (Nat.beq pc 81) (some (.bipush 6, 2, [])) none) (cond (Nat.beq pc 83) (some (.newarray .int, 2, [0, 20])) none))))
def sya129_9 (pc : Nat) : Option syO := (cond (Nat.blt pc 89) (cond (Nat.blt pc 86) (cond (Nat.beq pc 85) (some (.dup, 1, [])) none) (cond (Nat.blt pc 87) (cond (Nat.beq pc 86) (some (.iconst 0, 1, [])) none) (cond (Nat.beq pc 87) (some (.bipush 100, 2, [])) none))) (cond (Nat.blt pc 90) (cond (Nat.beq pc 89) (some (.iastore, 1, [])) none) (cond (Nat.blt pc 91) (cond (Nat.beq pc 90) (some (.dup, 1, [])) none) (cond (Nat.beq pc 91) (some (.iconst 1, 1, [])) none))))
def sya129_10 (pc : Nat) : Option syO := (cond (Nat.blt pc 96) (cond (Nat.blt pc 94) (cond (Nat.beq pc 92) (some (.bipush 100, 2, [])) none) (cond (Nat.blt pc 95) (cond (Nat.beq pc 94) (some (.iastore, 1, [])) none) (cond (Nat.beq pc 95) (some (.dup, 1, [])) none))) (cond (Nat.blt pc 97) (cond (Nat.beq pc 96) (some (.iconst 2, 1, [])) none) (cond (Nat.blt pc 99) (cond (Nat.beq pc 97) (some (.bipush 100, 2, [])) none) (cond (Nat.beq pc 99) (some (.iastore, 1, [])) none))))
def sya129_11 (pc : Nat) : Option syO := (cond (Nat.blt pc 102) (cond (Nat.blt pc 101) (cond (Nat.beq pc 100) (some (.dup, 1, [])) none) (cond (Nat.beq pc 101) (some (.iconst 3, 1, [])) none)) (cond (Nat.blt pc 104) (cond (Nat.beq pc 102) (some (.bipush 100, 2, [])) none) (cond (Nat.blt pc 105) (cond (Nat.beq pc 104) (some (.iastore, 1, [])) none) (cond (Nat.beq pc 105) (some (.dup, 1, [])) none))))
def sya129_12 (pc : Nat) : Option syO := (cond (Nat.blt pc 110) (cond (Nat.blt pc 107) (cond (Nat.beq pc 106) (some (.iconst 4, 1, [])) none) (cond (Nat.blt pc 109) (cond (Nat.beq pc 107) (some (.bipush 100, 2, [])) none) (cond (Nat.beq pc 109) (some (.iastore, 1, [])) none))) (cond (Nat.blt pc 111) (cond (Nat.beq pc 110) (some (.dup, 1, [])) none) (cond (Nat.blt pc 112) (cond (Nat.beq pc 111) (some (.iconst 5, 1, [])) none) (cond (Nat.beq pc 112) (some (.bipush 100, 2, [])) none))))
def sya129_13 (pc : Nat) : Option syO := (cond (Nat.blt pc 119) (cond (Nat.blt pc 115) (cond (Nat.beq pc 114) (some (.iastore, 1, [])) none) (cond (Nat.blt pc 118) (cond (Nat.beq pc 115) (some (.putfield 33, 3, [8, 8, 1])) none) (cond (Nat.beq pc 118) (some (.aload_n 0, 1, [])) none))) (cond (Nat.blt pc 120) (cond (Nat.beq pc 119) (some (.iconst 3, 1, [])) none) (cond (Nat.blt pc 122) (cond (Nat.beq pc 120) (some (.newarray .int, 2, [0, 20])) none) (cond (Nat.beq pc 122) (some (.putfield 36, 3, [8, 11, 1])) none))))
def sya129_14 (pc : Nat) : Option syO := (cond (Nat.blt pc 100) (cond (Nat.blt pc 85) (sya129_8 pc) (cond (Nat.blt pc 92) (sya129_9 pc) (sya129_10 pc))) (cond (Nat.blt pc 106) (sya129_11 pc) (cond (Nat.blt pc 114) (sya129_12 pc) (sya129_13 pc))))
def sya129_15 (pc : Nat) : Option syO := (cond (Nat.blt pc 127) (cond (Nat.blt pc 126) (cond (Nat.beq pc 125) (some (.aload_n 0, 1, [])) none) (cond (Nat.beq pc 126) (some (.iconst 3, 1, [])) none)) (cond (Nat.blt pc 129) (cond (Nat.beq pc 127) (some (.newarray .int, 2, [0, 20])) none) (cond (Nat.blt pc 130) (cond (Nat.beq pc 129) (some (.dup, 1, [])) none) (cond (Nat.beq pc 130) (some (.iconst 0, 1, [])) none))))
def sya129_16 (pc : Nat) : Option syO := (cond (Nat.blt pc 134) (cond (Nat.blt pc 132) (cond (Nat.beq pc 131) (some (.iconst (-1), 1, [])) none) (cond (Nat.blt pc 133) (cond (Nat.beq pc 132) (some (.iastore, 1, [])) none) (cond (Nat.beq pc 133) (some (.dup, 1, [])) none))) (cond (Nat.blt pc 135) (cond (Nat.beq pc 134) (some (.iconst 1, 1, [])) none) (cond (Nat.blt pc 136) (cond (Nat.beq pc 135) (some (.iconst (-1), 1, [])) none) (cond (Nat.beq pc 136) (some (.iastore, 1, [])) none))))
def sya129_17 (pc : Nat) : Option syO := (cond (Nat.blt pc 139) (cond (Nat.blt pc 138) (cond (Nat.beq pc 137) (some (.dup, 1, [])) none) (cond (Nat.beq pc 138) (some (.iconst 2, 1, [])) none)) (cond (Nat.blt pc 140) (cond (Nat.beq pc 139) (some (.iconst (-1), 1, [])) none) (cond (Nat.blt pc 141) (cond (Nat.beq pc 140) (some (.iastore, 1, [])) none) (cond (Nat.beq pc 141) (some (.putfield 39, 3, [8, 12, 1])) none))))
def sya129_18 (pc : Nat) : Option syO := (cond (Nat.blt pc 148) (cond (Nat.blt pc 145) (cond (Nat.beq pc 144) (some (.aload_n 0, 1, [])) none) (cond (Nat.blt pc 146) (cond (Nat.beq pc 145) (some (.iconst 3, 1, [])) none) (cond (Nat.beq pc 146) (some (.bipush 12, 2, [])) none))) (cond (Nat.blt pc 152) (cond (Nat.beq pc 148) (some (.multianewarray 16 2, 4, [])) none) (cond (Nat.blt pc 155) (cond (Nat.beq pc 152) (some (.putfield 42, 3, [8, 13, 1])) none) (cond (Nat.beq pc 155) (some (.aload_n 0, 1, [])) none))))
def sya129_19 (pc : Nat) : Option syO := (cond (Nat.blt pc 159) (cond (Nat.blt pc 157) (cond (Nat.beq pc 156) (some (.iconst 3, 1, [])) none) (cond (Nat.beq pc 157) (some (.bipush 12, 2, [])) none)) (cond (Nat.blt pc 163) (cond (Nat.beq pc 159) (some (.multianewarray 16 2, 4, [])) none) (cond (Nat.blt pc 166) (cond (Nat.beq pc 163) (some (.putfield 45, 3, [8, 14, 1])) none) (cond (Nat.beq pc 166) (some (.aload_n 0, 1, [])) none))))
def sya129_20 (pc : Nat) : Option syO := (cond (Nat.blt pc 174) (cond (Nat.blt pc 168) (cond (Nat.beq pc 167) (some (.iconst 3, 1, [])) none) (cond (Nat.blt pc 170) (cond (Nat.beq pc 168) (some (.bipush 12, 2, [])) none) (cond (Nat.beq pc 170) (some (.multianewarray 16 2, 4, [])) none))) (cond (Nat.blt pc 177) (cond (Nat.beq pc 174) (some (.putfield 48, 3, [8, 15, 1])) none) (cond (Nat.blt pc 178) (cond (Nat.beq pc 177) (some (.aload_n 0, 1, [])) none) (cond (Nat.beq pc 178) (some (.iconst 3, 1, [])) none))))
def sya129_21 (pc : Nat) : Option syO := (cond (Nat.blt pc 144) (cond (Nat.blt pc 131) (sya129_15 pc) (cond (Nat.blt pc 137) (sya129_16 pc) (sya129_17 pc))) (cond (Nat.blt pc 156) (sya129_18 pc) (cond (Nat.blt pc 167) (sya129_19 pc) (sya129_20 pc))))
def sya129_22 (pc : Nat) : Option syO := (cond (Nat.blt pc 185) (cond (Nat.blt pc 181) (cond (Nat.beq pc 179) (some (.bipush 12, 2, [])) none) (cond (Nat.beq pc 181) (some (.multianewarray 16 2, 4, [])) none)) (cond (Nat.blt pc 188) (cond (Nat.beq pc 185) (some (.putfield 51, 3, [8, 16, 1])) none) (cond (Nat.blt pc 189) (cond (Nat.beq pc 188) (some (.aload_n 0, 1, [])) none) (cond (Nat.beq pc 189) (some (.iconst 3, 1, [])) none))))
def sya129_23 (pc : Nat) : Option syO := (cond (Nat.blt pc 199) (cond (Nat.blt pc 192) (cond (Nat.beq pc 190) (some (.bipush 12, 2, [])) none) (cond (Nat.blt pc 196) (cond (Nat.beq pc 192) (some (.multianewarray 16 2, 4, [])) none) (cond (Nat.beq pc 196) (some (.putfield 54, 3, [8, 17, 1])) none))) (cond (Nat.blt pc 200) (cond (Nat.beq pc 199) (some (.aload_n 0, 1, [])) none) (cond (Nat.blt pc 201) (cond (Nat.beq pc 200) (some (.iconst 3, 1, [])) none) (cond (Nat.beq pc 201) (some (.bipush 12, 2, [])) none))))
def sya129_24 (pc : Nat) : Option syO := (cond (Nat.blt pc 211) (cond (Nat.blt pc 207) (cond (Nat.beq pc 203) (some (.multianewarray 16 2, 4, [])) none) (cond (Nat.blt pc 210) (cond (Nat.beq pc 207) (some (.putfield 57, 3, [8, 18, 1])) none) (cond (Nat.beq pc 210) (some (.aload_n 0, 1, [])) none))) (cond (Nat.blt pc 212) (cond (Nat.beq pc 211) (some (.iconst 3, 1, [])) none) (cond (Nat.blt pc 214) (cond (Nat.beq pc 212) (some (.bipush 12, 2, [])) none) (cond (Nat.beq pc 214) (some (.multianewarray 16 2, 4, [])) none))))
def sya129_25 (pc : Nat) : Option syO := (cond (Nat.blt pc 222) (cond (Nat.blt pc 221) (cond (Nat.beq pc 218) (some (.putfield 60, 3, [8, 19, 1])) none) (cond (Nat.beq pc 221) (some (.aload_n 0, 1, [])) none)) (cond (Nat.blt pc 223) (cond (Nat.beq pc 222) (some (.iconst (-1), 1, [])) none) (cond (Nat.blt pc 226) (cond (Nat.beq pc 223) (some (.putfield 63, 3, [8, 21, 0])) none) (cond (Nat.beq pc 226) (some (.aload_n 0, 1, [])) none))))
def sya129_26 (pc : Nat) : Option syO := (cond (Nat.blt pc 235) (cond (Nat.blt pc 230) (cond (Nat.beq pc 227) (some (.sipush 240, 3, [])) none) (cond (Nat.blt pc 232) (cond (Nat.beq pc 230) (some (.newarray .int, 2, [0, 20])) none) (cond (Nat.beq pc 232) (some (.putfield 67, 3, [8, 26, 1])) none))) (cond (Nat.blt pc 236) (cond (Nat.beq pc 235) (some (.aload_n 0, 1, [])) none) (cond (Nat.blt pc 239) (cond (Nat.beq pc 236) (some (.sipush 240, 3, [])) none) (cond (Nat.beq pc 239) (some (.newarray .int, 2, [0, 20])) none))))
def sya129_27 (pc : Nat) : Option syO := (cond (Nat.blt pc 248) (cond (Nat.blt pc 244) (cond (Nat.beq pc 241) (some (.putfield 70, 3, [8, 27, 1])) none) (cond (Nat.blt pc 245) (cond (Nat.beq pc 244) (some (.aload_n 0, 1, [])) none) (cond (Nat.beq pc 245) (some (.sipush 240, 3, [])) none))) (cond (Nat.blt pc 250) (cond (Nat.beq pc 248) (some (.newarray .int, 2, [0, 20])) none) (cond (Nat.blt pc 253) (cond (Nat.beq pc 250) (some (.putfield 73, 3, [8, 28, 1])) none) (cond (Nat.beq pc 253) (some (.aload_n 0, 1, [])) none))))
def sya129_28 (pc : Nat) : Option syO := (cond (Nat.blt pc 218) (cond (Nat.blt pc 190) (sya129_22 pc) (cond (Nat.blt pc 203) (sya129_23 pc) (sya129_24 pc))) (cond (Nat.blt pc 227) (sya129_25 pc) (cond (Nat.blt pc 241) (sya129_26 pc) (sya129_27 pc))))
def sya129_29 (pc : Nat) : Option syO := (cond (Nat.blt pc 258) (cond (Nat.blt pc 256) (cond (Nat.beq pc 254) (some (.bipush 120, 2, [])) none) (cond (Nat.beq pc 256) (some (.newarray .int, 2, [0, 20])) none)) (cond (Nat.blt pc 261) (cond (Nat.beq pc 258) (some (.putfield 76, 3, [8, 29, 1])) none) (cond (Nat.blt pc 262) (cond (Nat.beq pc 261) (some (.aload_n 0, 1, [])) none) (cond (Nat.beq pc 262) (some (.sipush 4096, 3, [])) none))))
def sya129_30 (pc : Nat) : Option syO := (cond (Nat.blt pc 271) (cond (Nat.blt pc 267) (cond (Nat.beq pc 265) (some (.newarray .long, 2, [0, 21])) none) (cond (Nat.blt pc 270) (cond (Nat.beq pc 267) (some (.putfield 79, 3, [8, 39, 1])) none) (cond (Nat.beq pc 270) (some (.aload_n 0, 1, [])) none))) (cond (Nat.blt pc 272) (cond (Nat.beq pc 271) (some (.iconst 4, 1, [])) none) (cond (Nat.blt pc 274) (cond (Nat.beq pc 272) (some (.bipush 6, 2, [])) none) (cond (Nat.beq pc 274) (some (.multianewarray 16 2, 4, [])) none))))
def sya129_31 (pc : Nat) : Option syO := (cond (Nat.blt pc 282) (cond (Nat.blt pc 281) (cond (Nat.beq pc 278) (some (.putfield 83, 3, [8, 40, 1])) none) (cond (Nat.beq pc 281) (some (.aload_n 0, 1, [])) none)) (cond (Nat.blt pc 283) (cond (Nat.beq pc 282) (some (.iconst 4, 1, [])) none) (cond (Nat.blt pc 284) (cond (Nat.beq pc 283) (some (.iconst 4, 1, [])) none) (cond (Nat.beq pc 284) (some (.multianewarray 16 2, 4, [])) none))))
def sya129_32 (pc : Nat) : Option syO := (cond (Nat.blt pc 293) (cond (Nat.blt pc 291) (cond (Nat.beq pc 288) (some (.putfield 86, 3, [8, 41, 1])) none) (cond (Nat.blt pc 292) (cond (Nat.beq pc 291) (some (.aload_n 0, 1, [])) none) (cond (Nat.beq pc 292) (some (.iconst 4, 1, [])) none))) (cond (Nat.blt pc 294) (cond (Nat.beq pc 293) (some (.iconst 3, 1, [])) none) (cond (Nat.blt pc 298) (cond (Nat.beq pc 294) (some (.multianewarray 16 2, 4, [])) none) (cond (Nat.beq pc 298) (some (.putfield 89, 3, [8, 42, 1])) none))))
def sya129_33 (pc : Nat) : Option syO := (cond (Nat.blt pc 303) (cond (Nat.blt pc 302) (cond (Nat.beq pc 301) (some (.aload_n 0, 1, [])) none) (cond (Nat.beq pc 302) (some (.iconst 4, 1, [])) none)) (cond (Nat.blt pc 304) (cond (Nat.beq pc 303) (some (.iconst 3, 1, [])) none) (cond (Nat.blt pc 308) (cond (Nat.beq pc 304) (some (.multianewarray 16 2, 4, [])) none) (cond (Nat.beq pc 308) (some (.putfield 92, 3, [8, 43, 1])) none))))
def sya129_34 (pc : Nat) : Option syO := (cond (Nat.blt pc 315) (cond (Nat.blt pc 312) (cond (Nat.beq pc 311) (some (.aload_n 0, 1, [])) none) (cond (Nat.blt pc 313) (cond (Nat.beq pc 312) (some (.iconst 4, 1, [])) none) (cond (Nat.beq pc 313) (some (.bipush 21, 2, [])) none))) (cond (Nat.blt pc 317) (cond (Nat.beq pc 315) (some (.bipush 12, 2, [])) none) (cond (Nat.blt pc 321) (cond (Nat.beq pc 317) (some (.multianewarray 95 3, 4, [])) none) (cond (Nat.beq pc 321) (some (.putfield 97, 3, [8, 44, 1])) none))))
def sya129_35 (pc : Nat) : Option syO := (cond (Nat.blt pc 288) (cond (Nat.blt pc 265) (sya129_29 pc) (cond (Nat.blt pc 278) (sya129_30 pc) (sya129_31 pc))) (cond (Nat.blt pc 301) (sya129_32 pc) (cond (Nat.blt pc 311) (sya129_33 pc) (sya129_34 pc))))
def sya129_36 (pc : Nat) : Option syO := (cond (Nat.blt pc 326) (cond (Nat.blt pc 325) (cond (Nat.beq pc 324) (some (.aload_n 0, 1, [])) none) (cond (Nat.beq pc 325) (some (.iconst 4, 1, [])) none)) (cond (Nat.blt pc 328) (cond (Nat.beq pc 326) (some (.newarray .int, 2, [0, 20])) none) (cond (Nat.blt pc 329) (cond (Nat.beq pc 328) (some (.dup, 1, [])) none) (cond (Nat.beq pc 329) (some (.iconst 0, 1, [])) none))))
def sya129_37 (pc : Nat) : Option syO := (cond (Nat.blt pc 333) (cond (Nat.blt pc 331) (cond (Nat.beq pc 330) (some (.iconst (-1), 1, [])) none) (cond (Nat.blt pc 332) (cond (Nat.beq pc 331) (some (.iastore, 1, [])) none) (cond (Nat.beq pc 332) (some (.dup, 1, [])) none))) (cond (Nat.blt pc 334) (cond (Nat.beq pc 333) (some (.iconst 1, 1, [])) none) (cond (Nat.blt pc 335) (cond (Nat.beq pc 334) (some (.iconst (-1), 1, [])) none) (cond (Nat.beq pc 335) (some (.iastore, 1, [])) none))))
def sya129_38 (pc : Nat) : Option syO := (cond (Nat.blt pc 339) (cond (Nat.blt pc 337) (cond (Nat.beq pc 336) (some (.dup, 1, [])) none) (cond (Nat.blt pc 338) (cond (Nat.beq pc 337) (some (.iconst 2, 1, [])) none) (cond (Nat.beq pc 338) (some (.iconst (-1), 1, [])) none))) (cond (Nat.blt pc 340) (cond (Nat.beq pc 339) (some (.iastore, 1, [])) none) (cond (Nat.blt pc 341) (cond (Nat.beq pc 340) (some (.dup, 1, [])) none) (cond (Nat.beq pc 341) (some (.iconst 3, 1, [])) none))))
def sya129_39 (pc : Nat) : Option syO := (cond (Nat.blt pc 344) (cond (Nat.blt pc 343) (cond (Nat.beq pc 342) (some (.iconst (-1), 1, [])) none) (cond (Nat.beq pc 343) (some (.iastore, 1, [])) none)) (cond (Nat.blt pc 347) (cond (Nat.beq pc 344) (some (.putfield 100, 3, [8, 45, 1])) none) (cond (Nat.blt pc 348) (cond (Nat.beq pc 347) (some (.aload_n 0, 1, [])) none) (cond (Nat.beq pc 348) (some (.iconst 4, 1, [])) none))))
def sya129_40 (pc : Nat) : Option syO := (cond (Nat.blt pc 355) (cond (Nat.blt pc 351) (cond (Nat.beq pc 349) (some (.newarray .int, 2, [0, 20])) none) (cond (Nat.blt pc 354) (cond (Nat.beq pc 351) (some (.putfield 103, 3, [8, 46, 1])) none) (cond (Nat.beq pc 354) (some (.aload_n 0, 1, [])) none))) (cond (Nat.blt pc 356) (cond (Nat.beq pc 355) (some (.iconst 4, 1, [])) none) (cond (Nat.blt pc 358) (cond (Nat.beq pc 356) (some (.bipush 40, 2, [])) none) (cond (Nat.beq pc 358) (some (.multianewarray 16 2, 4, [])) none))))
def sya129_41 (pc : Nat) : Option syO := (cond (Nat.blt pc 368) (cond (Nat.blt pc 365) (cond (Nat.beq pc 362) (some (.putfield 106, 3, [8, 47, 1])) none) (cond (Nat.blt pc 366) (cond (Nat.beq pc 365) (some (.aload_n 0, 1, [])) none) (cond (Nat.beq pc 366) (some (.bipush 40, 2, [])) none))) (cond (Nat.blt pc 370) (cond (Nat.beq pc 368) (some (.newarray .int, 2, [0, 20])) none) (cond (Nat.blt pc 373) (cond (Nat.beq pc 370) (some (.putfield 109, 3, [8, 48, 1])) none) (cond (Nat.beq pc 373) (some (.return_, 1, [])) none))))
def sya129_42 (pc : Nat) : Option syO := (cond (Nat.blt pc 342) (cond (Nat.blt pc 330) (sya129_36 pc) (cond (Nat.blt pc 336) (sya129_37 pc) (sya129_38 pc))) (cond (Nat.blt pc 349) (sya129_39 pc) (cond (Nat.blt pc 362) (sya129_40 pc) (sya129_41 pc))))
def sya129 (pc : Nat) : Option syO := (cond (Nat.blt pc 179) (cond (Nat.blt pc 73) (sya129_7 pc) (cond (Nat.blt pc 125) (sya129_14 pc) (sya129_21 pc))) (cond (Nat.blt pc 254) (sya129_28 pc) (cond (Nat.blt pc 324) (sya129_35 pc) (sya129_42 pc))))
def sya902_1 (pc : Nat) : Option syO := (cond (Nat.beq pc 0) (some (.new 7, 3, [7, 8])) none)
def sya902_2 (pc : Nat) : Option syO := (cond (Nat.blt pc 4) (cond (Nat.beq pc 3) (some (.dup, 1, [])) none) (cond (Nat.beq pc 4) (some (.invokespecial 9, 3, [2, 0, 0, 7, 2])) none))
def sya902_3 (pc : Nat) : Option syO := (cond (Nat.blt pc 8) (cond (Nat.beq pc 7) (some (.astore_n 1, 1, [])) none) (cond (Nat.beq pc 8) (some (.new 10, 3, [8, 49])) none))
def sya902_4 (pc : Nat) : Option syO := (cond (Nat.blt pc 12) (cond (Nat.beq pc 11) (some (.dup, 1, [])) none) (cond (Nat.beq pc 12) (some (.invokespecial 12, 3, [2, 129, 0, 8, 1])) none))
def sya902_5 (pc : Nat) : Option syO := (cond (Nat.blt pc 16) (cond (Nat.beq pc 15) (some (.astore_n 2, 1, [])) none) (cond (Nat.beq pc 16) (some (.iconst 0, 1, [])) none))
def sya902_6 (pc : Nat) : Option syO := (cond (Nat.blt pc 18) (cond (Nat.beq pc 17) (some (.istore_n 3, 1, [])) none) (cond (Nat.beq pc 18) (some (.iload_n 3, 1, [])) none))
def sya902 (pc : Nat) : Option syO := (cond (Nat.blt pc 11) (cond (Nat.blt pc 3) (sya902_1 pc) (cond (Nat.blt pc 7) (sya902_2 pc) (sya902_3 pc))) (cond (Nat.blt pc 15) (sya902_4 pc) (cond (Nat.blt pc 17) (sya902_5 pc) (sya902_6 pc))))
def sytc_1 (m pc : Nat) : Option syO := (sya0 pc)
def sytc_2 (m pc : Nat) : Option syO := (cond (Nat.blt m 2) (sya1 pc) (sya2 pc))
def sytc_3 (m pc : Nat) : Option syO := (cond (Nat.blt m 4) (sya3 pc) (sya4 pc))
def sytc_4 (m pc : Nat) : Option syO := (cond (Nat.blt m 6) (sya5 pc) (sya6 pc))
def sytc_5 (m pc : Nat) : Option syO := (cond (Nat.blt m 8) (sya7 pc) (sya8 pc))
def sytc_6 (m pc : Nat) : Option syO := (cond (Nat.blt m 902) (sya129 pc) (sya902 pc))
def sytb (m pc : Nat) : Option syO := (cond (Nat.blt m 5) (cond (Nat.blt m 1) (sytc_1 m pc) (cond (Nat.blt m 3) (sytc_2 m pc) (sytc_3 m pc))) (cond (Nat.blt m 7) (sytc_4 m pc) (cond (Nat.blt m 129) (sytc_5 m pc) (sytc_6 m pc))))
def sysz__1 (m : Nat) : Nat := (cond (Nat.beq m 0) 151 0)
def sysz__2 (m : Nat) : Nat := (cond (Nat.blt m 2) (cond (Nat.beq m 1) 13 0) (cond (Nat.beq m 2) 58 0))
def sysz__3 (m : Nat) : Nat := (cond (Nat.blt m 4) (cond (Nat.beq m 3) 32 0) (cond (Nat.beq m 4) 60 0))
def sysz__4 (m : Nat) : Nat := (cond (Nat.beq m 5) 22 0)
def sysz__5 (m : Nat) : Nat := (cond (Nat.blt m 7) (cond (Nat.beq m 6) 21 0) (cond (Nat.beq m 7) 71 0))
def sysz__6 (m : Nat) : Nat := (cond (Nat.blt m 129) (cond (Nat.beq m 8) 18 0) (cond (Nat.beq m 129) 374 0))
def sysz (m : Nat) : Nat := cond (Nat.blt m 216) (cond (Nat.blt m 5) (cond (Nat.blt m 1) (sysz__1 m) (cond (Nat.blt m 3) (sysz__2 m) (sysz__3 m))) (cond (Nat.blt m 6) (sysz__4 m) (cond (Nat.blt m 8) (sysz__5 m) (sysz__6 m)))) (cond (Nat.beq m 902) 19 0)
def sytab (m pc : Nat) : Option syO := cond (Nat.blt pc (sysz m)) (sytb m pc) none
def syk0_141 : List syQ := ([true, false, false], .eq, 0, 0, [0, 1]) :: ([false, true, true], .eq, (4096), 0, [3]) :: ([false, true, false, false, true, false, false, false, true, true], .eq, 0, 0, [0, 21]) :: ([false, true, false, false, true, true, true], .eq, 0, 0, [7, 7, 1]) :: ([false, true, false, true, false, false, false], .eq, 0, 0, []) :: []
def syk0_117 : List syQ := ([false, false, false], .eq, 0, 0, [1, 1]) :: ([false, true, true], .eq, (4), 0, [1]) :: ([true, true, true], (.ge), 0, 0, [141]) :: ([true, false, false], .eq, 0, 0, [0, 1]) :: ([true, false, true, true], .eq, 0, 0, [7, 6, 1]) :: ([false, false, false], .eq, 0, 0, [1, 1]) :: ([false, true, false, false, true, false, false, true, false, false], .eq, 0, 0, [4, 3]) :: ([false, true, false, false, true, true, false, true, true], .eq, 0, 0, []) :: ([false, true, false, false, true, false, false, false, false, false], .eq, 0, 0, [5, 8, 0, 4, 1]) :: ([false, true, false, false, true, false, false, true, false, true], .eq, 0, 0, []) :: ([false, false, true, false, false], .eq, (1), 0, [1]) :: ([true, false, true, false], .eq, 0, 0, [117]) :: []
def syk0_51 : List syQ := ([true, false, false], .eq, 0, 0, [0, 1]) :: ([false, true, false, false, true, false, false, true, false, false], .eq, 0, 0, [0, 4]) :: ([false, true, false, false, true, true, false, true, true], .eq, 0, 0, []) :: ([false, true, true], .eq, (240), 0, [3]) :: ([false, true, false, false, true, false, false, false, false, false], .eq, 0, 0, [2, 3, 1, 0, 3]) :: ([false, true, false, false, true, true, true], .eq, 0, 0, [7, 3, 1]) :: ([true, false, false], .eq, 0, 0, [0, 1]) :: ([false, true, false, false, true, false, false, true, false, false], .eq, 0, 0, [6, 4]) :: ([false, true, false, false, true, true, false, true, true], .eq, 0, 0, []) :: ([true, false, false], .eq, 0, 0, [0, 1]) :: ([true, false, true, true], .eq, 0, 0, [7, 1, 1]) :: ([true, false, false], .eq, 0, 0, [0, 1]) :: ([true, false, true, true], .eq, 0, 0, [7, 3, 1]) :: ([false, true, false, false, true, false, false, false, false, false], .eq, 0, 0, [2, 4, 2, 6, 4]) :: ([false, true, false, false, true, true, true], .eq, 0, 0, [7, 4, 1]) :: ([true, false, false], .eq, 0, 0, [0, 1]) :: ([false, true, false, false, true, false, false, true, false, false], .eq, 0, 0, [6, 4]) :: ([false, true, false, false, true, true, false, true, true], .eq, 0, 0, []) :: ([true, false, false], .eq, 0, 0, [0, 1]) :: ([true, false, true, true], .eq, 0, 0, [7, 1, 1]) :: ([false, true, false, false, true, false, false, true, false, false], .eq, 0, 0, [0, 4]) :: ([false, true, false, false, true, true, false, true, true], .eq, 0, 0, []) :: ([false, true, true], .eq, (0), 0, [1]) :: ([false, true, false, false, true, false, false, false, false, false], .eq, 0, 0, [2, 3, 1, 0, 3]) :: ([false, true, false, false, true, false, false, false, false, false], .eq, 0, 0, [2, 4, 2, 6, 4]) :: ([false, true, false, false, true, true, true], .eq, 0, 0, [7, 5, 1]) :: ([true, false, false], .eq, 0, 0, [0, 1]) :: ([false, true, true], .eq, (4), 0, [1]) :: ([false, true, false, false, true, false, false, false, true, false], .eq, 0, 0, [4, 24]) :: ([false, true, false, false, true, true, true], .eq, 0, 0, [7, 6, 1]) :: ([false, true, true], .eq, (0), 0, [1]) :: ([false, false, true, false, true, true, true], .eq, 0, 0, [1, 1]) :: syk0_117
def syk0_26 : List syQ := ([false, false, false], .eq, 0, 0, [1, 1]) :: ([false, true, true], .eq, (6), 0, [2]) :: ([true, true, true], (.ge), 0, 0, [51]) :: ([true, false, false], .eq, 0, 0, [0, 1]) :: ([true, false, true, true], .eq, 0, 0, [7, 1, 1]) :: ([false, false, false], .eq, 0, 0, [1, 1]) :: ([false, true, false, false, true, false, false, true, false, false], .eq, 0, 0, [1, 8]) :: ([false, true, false, false, true, true, false, true, true], .eq, 0, 0, []) :: ([false, true, false, false, true, false, false, false, false, false], .eq, 0, 0, [5, 2, 0, 1, 1]) :: ([false, true, false, false, true, false, false, true, false, true], .eq, 0, 0, []) :: ([false, false, true, false, false], .eq, (1), 0, [1]) :: ([true, false, true, false], .eq, 0, 0, [26]) :: []
def syk0_0 : List syQ := ([true, false, false], .eq, 0, 0, [0, 1]) :: ([false, true, false, false, true, false, false, false, false, false], .eq, 0, 0, [6, 0, 0, 0, 0]) :: ([true, false, false], .eq, 0, 0, [0, 1]) :: ([false, true, false, false, true, false, false, true, false, false], .eq, 0, 0, [3, 7]) :: ([false, true, false, false, true, true, false, true, true], .eq, 0, 0, []) :: ([false, true, false, false, true, false, false, false, false, false], .eq, 0, 0, [5, 1, 0, 3, 1]) :: ([false, true, false, false, true, true, true], .eq, 0, 0, [7, 0, 1]) :: ([true, false, false], .eq, 0, 0, [0, 1]) :: ([false, true, true], .eq, (6), 0, [2]) :: ([false, true, false, false, true, false, false, false, true, false], .eq, 0, 0, [1, 22]) :: ([false, true, false, false, true, true, true], .eq, 0, 0, [7, 1, 1]) :: ([false, true, true], .eq, (0), 0, [1]) :: ([false, false, true, false, true, true, true], .eq, 0, 0, [1, 1]) :: syk0_26
def sykt0 (pc : Nat) : List syQ := (cond (Nat.blt pc 51) (cond (Nat.blt pc 26) (cond (Nat.beq pc 0) syk0_0 []) (cond (Nat.beq pc 26) syk0_26 [])) (cond (Nat.blt pc 117) (cond (Nat.beq pc 51) syk0_51 []) (cond (Nat.blt pc 141) (cond (Nat.beq pc 117) syk0_117 []) (cond (Nat.beq pc 141) syk0_141 []))))
def syk1_0 : List syQ := ([true, false, false], .eq, 0, 0, [0, 1]) :: ([false, true, false, false, true, false, false, false, false, false], .eq, 0, 0, [6, 0, 0, 0, 0]) :: ([true, false, false], .eq, 0, 0, [0, 1]) :: ([false, true, true], .eq, (120), 0, [2]) :: ([false, true, false, false, true, false, false, false, true, true], .eq, 0, 0, [0, 20]) :: ([false, true, false, false, true, true, true], .eq, 0, 0, [3, 0, 1]) :: ([false, true, false, true, false, false, false], .eq, 0, 0, []) :: []
def sykt1 (pc : Nat) : List syQ := (cond (Nat.beq pc 0) syk1_0 [])
def syk2_0 : List syQ := ([true, false, false], .eq, 0, 0, [0, 1]) :: ([false, true, false, false, true, false, false, false, false, false], .eq, 0, 0, [6, 0, 0, 0, 0]) :: ([true, false, false], .eq, 0, 0, [0, 1]) :: ([false, true, true], .eq, (12), 0, [2]) :: ([false, true, false, false, true, false, false, false, true, true], .eq, 0, 0, [0, 20]) :: ([false, true, false, false, true, true, true], .eq, 0, 0, [1, 0, 1]) :: ([true, false, false], .eq, 0, 0, [0, 1]) :: ([false, true, true], .eq, (12), 0, [2]) :: ([false, true, false, false, true, false, false, false, true, true], .eq, 0, 0, [0, 20]) :: ([false, true, false, false, true, true, true], .eq, 0, 0, [1, 1, 1]) :: ([true, false, false], .eq, 0, 0, [0, 1]) :: ([false, true, true], .eq, (12), 0, [2]) :: ([false, true, false, false, true, false, false, false, true, true], .eq, 0, 0, [0, 20]) :: ([false, true, false, false, true, true, true], .eq, 0, 0, [1, 2, 1]) :: ([true, false, false], .eq, 0, 0, [0, 1]) :: ([false, true, true], .eq, (12), 0, [2]) :: ([false, true, false, false, true, false, false, false, true, true], .eq, 0, 0, [0, 20]) :: ([false, true, false, false, true, true, true], .eq, 0, 0, [1, 3, 1]) :: ([true, false, false], .eq, 0, 0, [0, 1]) :: ([false, true, true], .eq, (12), 0, [2]) :: ([false, true, false, false, true, false, false, false, true, true], .eq, 0, 0, [0, 20]) :: ([false, true, false, false, true, true, true], .eq, 0, 0, [1, 4, 1]) :: ([true, false, false], .eq, 0, 0, [0, 1]) :: ([false, true, true], .eq, (12), 0, [2]) :: ([false, true, false, false, true, false, false, false, true, true], .eq, 0, 0, [0, 20]) :: ([false, true, false, false, true, true, true], .eq, 0, 0, [1, 5, 1]) :: ([true, false, false], .eq, 0, 0, [0, 1]) :: ([false, true, true], .eq, (-1), 0, [1]) :: ([false, true, false, false, true, true, true], .eq, 0, 0, [1, 7, 0]) :: ([false, true, false, true, false, false, false], .eq, 0, 0, []) :: []
def sykt2 (pc : Nat) : List syQ := (cond (Nat.beq pc 0) syk2_0 [])
def syk3_0 : List syQ := ([true, false, false], .eq, 0, 0, [0, 1]) :: ([false, true, false, false, true, false, false, false, false, false], .eq, 0, 0, [6, 0, 0, 0, 0]) :: ([false, true, true], .eq, (0), 0, [1]) :: ([false, false, false], .eq, 0, 0, [1, 1]) :: ([true, true, false, false, true], .eq, 0, 0, [10, 0, 0, 0, 0]) :: ([false, false, true, false, true, true, true], .eq, 0, 0, [2, 1]) :: ([true, false, false], .eq, 0, 0, [0, 1]) :: ([false, false, false], .eq, 0, 0, [2, 1]) :: ([false, true, false, false, true, false, false, false, true, true], .eq, 0, 0, [0, 20]) :: ([false, true, false, false, true, true, true], .eq, 0, 0, [0, 0, 1]) :: ([true, false, false], .eq, 0, 0, [0, 1]) :: ([false, false, false], .eq, 0, 0, [2, 1]) :: ([false, true, false, false, true, false, false, false, true, true], .eq, 0, 0, [0, 20]) :: ([false, true, false, false, true, true, true], .eq, 0, 0, [0, 1, 1]) :: ([true, false, false], .eq, 0, 0, [0, 1]) :: ([false, false, false], .eq, 0, 0, [2, 1]) :: ([false, true, false, false, true, false, false, false, true, true], .eq, 0, 0, [0, 20]) :: ([false, true, false, false, true, true, true], .eq, 0, 0, [0, 2, 1]) :: ([false, true, false, true, false, false, false], .eq, 0, 0, []) :: []
def sykt3 (pc : Nat) : List syQ := (cond (Nat.beq pc 0) syk3_0 [])
def syk4_59 : List syQ := ([false, true, false, true, false, false, false], .eq, 0, 0, []) :: []
def syk4_35 : List syQ := ([false, false, false], .eq, 0, 0, [3, 1]) :: ([false, true, true], .eq, (3), 0, [1]) :: ([true, true, true], (.ge), 0, 0, [59]) :: ([true, false, false], .eq, 0, 0, [0, 1]) :: ([true, false, true, true], .eq, 0, 0, [6, 3, 1]) :: ([false, false, false], .eq, 0, 0, [3, 1]) :: ([false, true, false, false, true, false, false, true, false, false], .eq, 0, 0, [5, 14]) :: ([false, true, false, false, true, true, false, true, true], .eq, 0, 0, []) :: ([false, true, false, false, true, false, false, false, false, false], .eq, 0, 0, [5, 7, 0, 5, 1]) :: ([false, true, false, false, true, false, false, true, false, true], .eq, 0, 0, []) :: ([false, false, true, false, false], .eq, (1), 0, [3]) :: ([true, false, true, false], .eq, 0, 0, [35]) :: []
def syk4_0 : List syQ := ([true, false, false], .eq, 0, 0, [0, 1]) :: ([false, true, false, false, true, false, false, false, false, false], .eq, 0, 0, [6, 0, 0, 0, 0]) :: ([true, false, false], .eq, 0, 0, [0, 1]) :: ([false, true, false, false, true, false, false, true, false, false], .eq, 0, 0, [2, 3]) :: ([false, true, false, false, true, true, false, true, true], .eq, 0, 0, []) :: ([false, true, false, false, true, false, false, false, false, false], .eq, 0, 0, [2, 5, 0, 2, 1]) :: ([false, true, false, false, true, true, true], .eq, 0, 0, [6, 2, 1]) :: ([true, false, false], .eq, 0, 0, [0, 1]) :: ([false, true, true], .eq, (3), 0, [1]) :: ([false, true, false, false, true, false, false, false, true, false], .eq, 0, 0, [5, 23]) :: ([false, true, false, false, true, true, true], .eq, 0, 0, [6, 3, 1]) :: ([true, false, false], .eq, 0, 0, [0, 1]) :: ([true, false, false], .eq, 0, 0, [1, 1]) :: ([false, true, false, false, true, true, true], .eq, 0, 0, [6, 0, 1]) :: ([true, false, false], .eq, 0, 0, [0, 1]) :: ([true, false, false], .eq, 0, 0, [2, 1]) :: ([false, true, false, false, true, true, true], .eq, 0, 0, [6, 1, 1]) :: ([false, true, true], .eq, (0), 0, [1]) :: ([false, false, true, false, true, true, true], .eq, 0, 0, [3, 1]) :: syk4_35
def sykt4 (pc : Nat) : List syQ := (cond (Nat.blt pc 35) (cond (Nat.beq pc 0) syk4_0 []) (cond (Nat.blt pc 59) (cond (Nat.beq pc 35) syk4_35 []) (cond (Nat.beq pc 59) syk4_59 [])))
def syk5_0 : List syQ := ([true, false, false], .eq, 0, 0, [0, 1]) :: ([false, true, false, false, true, false, false, false, false, false], .eq, 0, 0, [6, 0, 0, 0, 0]) :: ([true, false, false], .eq, 0, 0, [0, 1]) :: ([false, true, true], .eq, (6), 0, [2]) :: ([false, true, false, false, true, false, false, false, true, true], .eq, 0, 0, [0, 20]) :: ([false, true, false, false, true, true, true], .eq, 0, 0, [2, 0, 1]) :: ([true, false, false], .eq, 0, 0, [0, 1]) :: ([true, false, true, true], .eq, 0, 0, [2, 0, 1]) :: ([false, true, true], .eq, (100), 0, [2]) :: ([true, true, false, false, true], .eq, 0, 0, [1, 6, 2, 12, 4]) :: ([false, true, false, true, false, false, false], .eq, 0, 0, []) :: []
def sykt5 (pc : Nat) : List syQ := (cond (Nat.beq pc 0) syk5_0 [])
def syk6_20 : List syQ := ([false, true, false, true, false, false, false], .eq, 0, 0, []) :: []
def syk6_5 : List syQ := ([false, false, false], .eq, 0, 0, [2, 1]) :: ([false, false, false], .eq, 0, 0, [3, 1]) :: ([true, true, true], (.ge), 0, 0, [20]) :: ([true, false, false], .eq, 0, 0, [0, 1]) :: ([false, false, false], .eq, 0, 0, [2, 1]) :: ([false, false, false], .eq, 0, 0, [1, 1]) :: ([true, true, false, true], .eq, 0, 0, []) :: ([false, false, true, false, false], .eq, (1), 0, [2]) :: ([true, false, true, false], .eq, 0, 0, [5]) :: []
def syk6_0 : List syQ := ([false, true, true], .eq, (0), 0, [1]) :: ([false, false, true, false, true, true, true], .eq, 0, 0, [2, 1]) :: ([true, false, false], .eq, 0, 0, [0, 1]) :: ([false, false, true, false, true, true, false, false, false], .eq, 0, 0, []) :: ([false, false, true, false, true, true, true], .eq, 0, 0, [3, 1]) :: syk6_5
def sykt6 (pc : Nat) : List syQ := (cond (Nat.blt pc 5) (cond (Nat.beq pc 0) syk6_0 []) (cond (Nat.blt pc 20) (cond (Nat.beq pc 5) syk6_5 []) (cond (Nat.beq pc 20) syk6_20 [])))
def syk7_0 : List syQ := ([true, false, false], .eq, 0, 0, [0, 1]) :: ([false, true, false, false, true, false, false, false, false, false], .eq, 0, 0, [6, 0, 0, 0, 0]) :: ([true, false, false], .eq, 0, 0, [0, 1]) :: ([false, true, true], .eq, (0), 0, [1]) :: ([false, true, false, false, true, true, true], .eq, 0, 0, [5, 0, 0]) :: ([true, false, false], .eq, 0, 0, [0, 1]) :: ([false, true, true], .eq, (-1), 0, [1]) :: ([false, true, false, false, true, true, true], .eq, 0, 0, [5, 1, 0]) :: ([true, false, false], .eq, 0, 0, [0, 1]) :: ([false, true, true], .eq, (12), 0, [2]) :: ([false, true, false, false, true, false, false, false, true, true], .eq, 0, 0, [0, 20]) :: ([false, true, false, false, true, true, true], .eq, 0, 0, [5, 6, 1]) :: ([true, false, false], .eq, 0, 0, [0, 1]) :: ([false, true, true], .eq, (12), 0, [2]) :: ([false, true, false, false, true, false, false, false, true, true], .eq, 0, 0, [0, 20]) :: ([false, true, false, false, true, true, true], .eq, 0, 0, [5, 8, 1]) :: ([true, false, false], .eq, 0, 0, [0, 1]) :: ([false, true, true], .eq, (12), 0, [2]) :: ([false, true, false, false, true, false, false, false, true, true], .eq, 0, 0, [0, 20]) :: ([false, true, false, false, true, true, true], .eq, 0, 0, [5, 9, 1]) :: ([true, false, false], .eq, 0, 0, [0, 1]) :: ([false, true, true], .eq, (12), 0, [2]) :: ([false, true, false, false, true, false, false, false, true, true], .eq, 0, 0, [0, 20]) :: ([false, true, false, false, true, true, true], .eq, 0, 0, [5, 10, 1]) :: ([true, false, false], .eq, 0, 0, [0, 1]) :: ([false, true, true], .eq, (12), 0, [2]) :: ([false, true, false, false, true, false, false, false, true, true], .eq, 0, 0, [0, 20]) :: ([false, true, false, false, true, true, true], .eq, 0, 0, [5, 11, 1]) :: ([true, false, false], .eq, 0, 0, [0, 1]) :: ([false, true, true], .eq, (12), 0, [2]) :: ([false, true, false, false, true, false, false, false, true, true], .eq, 0, 0, [0, 20]) :: ([false, true, false, false, true, true, true], .eq, 0, 0, [5, 12, 1]) :: ([true, false, false], .eq, 0, 0, [0, 1]) :: ([false, true, true], .eq, (12), 0, [2]) :: ([false, true, false, false, true, false, false, false, true, true], .eq, 0, 0, [0, 20]) :: ([false, true, false, false, true, true, true], .eq, 0, 0, [5, 13, 1]) :: ([false, true, false, true, false, false, false], .eq, 0, 0, []) :: []
def sykt7 (pc : Nat) : List syQ := (cond (Nat.beq pc 0) syk7_0 [])
def syk8_0 : List syQ := ([true, false, false], .eq, 0, 0, [0, 1]) :: ([false, true, false, false, true, false, false, false, false, false], .eq, 0, 0, [6, 0, 0, 0, 0]) :: ([true, false, false], .eq, 0, 0, [0, 1]) :: ([false, true, true], .eq, (-1), 0, [1]) :: ([false, true, false, false, true, true, true], .eq, 0, 0, [4, 0, 0]) :: ([true, false, false], .eq, 0, 0, [0, 1]) :: ([false, true, true], .eq, (40), 0, [2]) :: ([false, true, false, false, true, false, false, false, true, true], .eq, 0, 0, [0, 20]) :: ([false, true, false, false, true, true, true], .eq, 0, 0, [4, 2, 1]) :: ([false, true, false, true, false, false, false], .eq, 0, 0, []) :: []
def sykt8 (pc : Nat) : List syQ := (cond (Nat.beq pc 0) syk8_0 [])
def syk129_0 : List syQ := ([true, false, false], .eq, 0, 0, [0, 1]) :: ([false, true, false, false, true, false, false, false, false, false], .eq, 0, 0, [6, 0, 0, 0, 0]) :: ([true, false, false], .eq, 0, 0, [0, 1]) :: ([false, true, true], .eq, (6), 0, [2]) :: ([false, true, false, false, true, false, false, false, true, true], .eq, 0, 0, [0, 20]) :: ([false, true, false, false, true, true, true], .eq, 0, 0, [8, 1, 1]) :: ([true, false, false], .eq, 0, 0, [0, 1]) :: ([false, true, true], .eq, (6), 0, [2]) :: ([false, true, false, false, true, false, false, false, true, true], .eq, 0, 0, [0, 20]) :: ([false, true, false, false, true, true, true], .eq, 0, 0, [8, 2, 1]) :: ([true, false, false], .eq, 0, 0, [0, 1]) :: ([false, true, true], .eq, (6), 0, [2]) :: ([false, true, true], .eq, (12), 0, [2]) :: ([false, true, false, false, true, false, false, false, false, true], .eq, 0, 0, [2]) :: ([false, true, false, false, true, true, true], .eq, 0, 0, [8, 3, 1]) :: ([true, false, false], .eq, 0, 0, [0, 1]) :: ([false, true, true], .eq, (6), 0, [2]) :: ([false, true, true], .eq, (12), 0, [2]) :: ([false, true, false, false, true, false, false, false, false, true], .eq, 0, 0, [2]) :: ([false, true, false, false, true, true, true], .eq, 0, 0, [8, 4, 1]) :: ([true, false, false], .eq, 0, 0, [0, 1]) :: ([false, true, true], .eq, (6), 0, [2]) :: ([false, true, true], .eq, (12), 0, [2]) :: ([false, true, false, false, true, false, false, false, false, true], .eq, 0, 0, [2]) :: ([false, true, false, false, true, true, true], .eq, 0, 0, [8, 5, 1]) :: ([true, false, false], .eq, 0, 0, [0, 1]) :: ([false, true, true], .eq, (6), 0, [2]) :: ([false, true, true], .eq, (12), 0, [2]) :: ([false, true, false, false, true, false, false, false, false, true], .eq, 0, 0, [2]) :: ([false, true, false, false, true, true, true], .eq, 0, 0, [8, 6, 1]) :: ([true, false, false], .eq, 0, 0, [0, 1]) :: ([false, true, true], .eq, (6), 0, [2]) :: ([false, true, true], .eq, (12), 0, [2]) :: ([false, true, false, false, true, false, false, false, false, true], .eq, 0, 0, [2]) :: ([false, true, false, false, true, true, true], .eq, 0, 0, [8, 7, 1]) :: ([true, false, false], .eq, 0, 0, [0, 1]) :: ([false, true, true], .eq, (6), 0, [2]) :: ([false, true, false, false, true, false, false, false, true, true], .eq, 0, 0, [0, 20]) :: ([false, true, false, false, true, true, false, true, true], .eq, 0, 0, []) :: ([false, true, true], .eq, (0), 0, [1]) :: ([false, true, true], .eq, (100), 0, [2]) :: ([true, true, false, true], .eq, 0, 0, []) :: ([false, true, false, false, true, true, false, true, true], .eq, 0, 0, []) :: ([false, true, true], .eq, (1), 0, [1]) :: ([false, true, true], .eq, (100), 0, [2]) :: ([true, true, false, true], .eq, 0, 0, []) :: ([false, true, false, false, true, true, false, true, true], .eq, 0, 0, []) :: ([false, true, true], .eq, (2), 0, [1]) :: ([false, true, true], .eq, (100), 0, [2]) :: ([true, true, false, true], .eq, 0, 0, []) :: ([false, true, false, false, true, true, false, true, true], .eq, 0, 0, []) :: ([false, true, true], .eq, (3), 0, [1]) :: ([false, true, true], .eq, (100), 0, [2]) :: ([true, true, false, true], .eq, 0, 0, []) :: ([false, true, false, false, true, true, false, true, true], .eq, 0, 0, []) :: ([false, true, true], .eq, (4), 0, [1]) :: ([false, true, true], .eq, (100), 0, [2]) :: ([true, true, false, true], .eq, 0, 0, []) :: ([false, true, false, false, true, true, false, true, true], .eq, 0, 0, []) :: ([false, true, true], .eq, (5), 0, [1]) :: ([false, true, true], .eq, (100), 0, [2]) :: ([true, true, false, true], .eq, 0, 0, []) :: ([false, true, false, false, true, true, true], .eq, 0, 0, [8, 8, 1]) :: ([true, false, false], .eq, 0, 0, [0, 1]) :: ([false, true, true], .eq, (3), 0, [1]) :: ([false, true, false, false, true, false, false, false, true, true], .eq, 0, 0, [0, 20]) :: ([false, true, false, false, true, true, true], .eq, 0, 0, [8, 11, 1]) :: ([true, false, false], .eq, 0, 0, [0, 1]) :: ([false, true, true], .eq, (3), 0, [1]) :: ([false, true, false, false, true, false, false, false, true, true], .eq, 0, 0, [0, 20]) :: ([false, true, false, false, true, true, false, true, true], .eq, 0, 0, []) :: ([false, true, true], .eq, (0), 0, [1]) :: ([false, true, true], .eq, (-1), 0, [1]) :: ([true, true, false, true], .eq, 0, 0, []) :: ([false, true, false, false, true, true, false, true, true], .eq, 0, 0, []) :: ([false, true, true], .eq, (1), 0, [1]) :: ([false, true, true], .eq, (-1), 0, [1]) :: ([true, true, false, true], .eq, 0, 0, []) :: ([false, true, false, false, true, true, false, true, true], .eq, 0, 0, []) :: ([false, true, true], .eq, (2), 0, [1]) :: ([false, true, true], .eq, (-1), 0, [1]) :: ([true, true, false, true], .eq, 0, 0, []) :: ([false, true, false, false, true, true, true], .eq, 0, 0, [8, 12, 1]) :: ([true, false, false], .eq, 0, 0, [0, 1]) :: ([false, true, true], .eq, (3), 0, [1]) :: ([false, true, true], .eq, (12), 0, [2]) :: ([false, true, false, false, true, false, false, false, false, true], .eq, 0, 0, [2]) :: ([false, true, false, false, true, true, true], .eq, 0, 0, [8, 13, 1]) :: ([true, false, false], .eq, 0, 0, [0, 1]) :: ([false, true, true], .eq, (3), 0, [1]) :: ([false, true, true], .eq, (12), 0, [2]) :: ([false, true, false, false, true, false, false, false, false, true], .eq, 0, 0, [2]) :: ([false, true, false, false, true, true, true], .eq, 0, 0, [8, 14, 1]) :: ([true, false, false], .eq, 0, 0, [0, 1]) :: ([false, true, true], .eq, (3), 0, [1]) :: ([false, true, true], .eq, (12), 0, [2]) :: ([false, true, false, false, true, false, false, false, false, true], .eq, 0, 0, [2]) :: ([false, true, false, false, true, true, true], .eq, 0, 0, [8, 15, 1]) :: ([true, false, false], .eq, 0, 0, [0, 1]) :: ([false, true, true], .eq, (3), 0, [1]) :: ([false, true, true], .eq, (12), 0, [2]) :: ([false, true, false, false, true, false, false, false, false, true], .eq, 0, 0, [2]) :: ([false, true, false, false, true, true, true], .eq, 0, 0, [8, 16, 1]) :: ([true, false, false], .eq, 0, 0, [0, 1]) :: ([false, true, true], .eq, (3), 0, [1]) :: ([false, true, true], .eq, (12), 0, [2]) :: ([false, true, false, false, true, false, false, false, false, true], .eq, 0, 0, [2]) :: ([false, true, false, false, true, true, true], .eq, 0, 0, [8, 17, 1]) :: ([true, false, false], .eq, 0, 0, [0, 1]) :: ([false, true, true], .eq, (3), 0, [1]) :: ([false, true, true], .eq, (12), 0, [2]) :: ([false, true, false, false, true, false, false, false, false, true], .eq, 0, 0, [2]) :: ([false, true, false, false, true, true, true], .eq, 0, 0, [8, 18, 1]) :: ([true, false, false], .eq, 0, 0, [0, 1]) :: ([false, true, true], .eq, (3), 0, [1]) :: ([false, true, true], .eq, (12), 0, [2]) :: ([false, true, false, false, true, false, false, false, false, true], .eq, 0, 0, [2]) :: ([false, true, false, false, true, true, true], .eq, 0, 0, [8, 19, 1]) :: ([true, false, false], .eq, 0, 0, [0, 1]) :: ([false, true, true], .eq, (-1), 0, [1]) :: ([false, true, false, false, true, true, true], .eq, 0, 0, [8, 21, 0]) :: ([true, false, false], .eq, 0, 0, [0, 1]) :: ([false, true, true], .eq, (240), 0, [3]) :: ([false, true, false, false, true, false, false, false, true, true], .eq, 0, 0, [0, 20]) :: ([false, true, false, false, true, true, true], .eq, 0, 0, [8, 26, 1]) :: ([true, false, false], .eq, 0, 0, [0, 1]) :: ([false, true, true], .eq, (240), 0, [3]) :: ([false, true, false, false, true, false, false, false, true, true], .eq, 0, 0, [0, 20]) :: ([false, true, false, false, true, true, true], .eq, 0, 0, [8, 27, 1]) :: ([true, false, false], .eq, 0, 0, [0, 1]) :: ([false, true, true], .eq, (240), 0, [3]) :: ([false, true, false, false, true, false, false, false, true, true], .eq, 0, 0, [0, 20]) :: ([false, true, false, false, true, true, true], .eq, 0, 0, [8, 28, 1]) :: ([true, false, false], .eq, 0, 0, [0, 1]) :: ([false, true, true], .eq, (120), 0, [2]) :: ([false, true, false, false, true, false, false, false, true, true], .eq, 0, 0, [0, 20]) :: ([false, true, false, false, true, true, true], .eq, 0, 0, [8, 29, 1]) :: ([true, false, false], .eq, 0, 0, [0, 1]) :: ([false, true, true], .eq, (4096), 0, [3]) :: ([false, true, false, false, true, false, false, false, true, true], .eq, 0, 0, [0, 21]) :: ([false, true, false, false, true, true, true], .eq, 0, 0, [8, 39, 1]) :: ([true, false, false], .eq, 0, 0, [0, 1]) :: ([false, true, true], .eq, (4), 0, [1]) :: ([false, true, true], .eq, (6), 0, [2]) :: ([false, true, false, false, true, false, false, false, false, true], .eq, 0, 0, [2]) :: ([false, true, false, false, true, true, true], .eq, 0, 0, [8, 40, 1]) :: ([true, false, false], .eq, 0, 0, [0, 1]) :: ([false, true, true], .eq, (4), 0, [1]) :: ([false, true, true], .eq, (4), 0, [1]) :: ([false, true, false, false, true, false, false, false, false, true], .eq, 0, 0, [2]) :: ([false, true, false, false, true, true, true], .eq, 0, 0, [8, 41, 1]) :: ([true, false, false], .eq, 0, 0, [0, 1]) :: ([false, true, true], .eq, (4), 0, [1]) :: ([false, true, true], .eq, (3), 0, [1]) :: ([false, true, false, false, true, false, false, false, false, true], .eq, 0, 0, [2]) :: ([false, true, false, false, true, true, true], .eq, 0, 0, [8, 42, 1]) :: ([true, false, false], .eq, 0, 0, [0, 1]) :: ([false, true, true], .eq, (4), 0, [1]) :: ([false, true, true], .eq, (3), 0, [1]) :: ([false, true, false, false, true, false, false, false, false, true], .eq, 0, 0, [2]) :: ([false, true, false, false, true, true, true], .eq, 0, 0, [8, 43, 1]) :: ([true, false, false], .eq, 0, 0, [0, 1]) :: ([false, true, true], .eq, (4), 0, [1]) :: ([false, true, true], .eq, (21), 0, [2]) :: ([false, true, true], .eq, (12), 0, [2]) :: ([false, true, false, false, true, false, false, false, false, true], .eq, 0, 0, [3]) :: ([false, true, false, false, true, true, true], .eq, 0, 0, [8, 44, 1]) :: ([true, false, false], .eq, 0, 0, [0, 1]) :: ([false, true, true], .eq, (4), 0, [1]) :: ([false, true, false, false, true, false, false, false, true, true], .eq, 0, 0, [0, 20]) :: ([false, true, false, false, true, true, false, true, true], .eq, 0, 0, []) :: ([false, true, true], .eq, (0), 0, [1]) :: ([false, true, true], .eq, (-1), 0, [1]) :: ([true, true, false, true], .eq, 0, 0, []) :: ([false, true, false, false, true, true, false, true, true], .eq, 0, 0, []) :: ([false, true, true], .eq, (1), 0, [1]) :: ([false, true, true], .eq, (-1), 0, [1]) :: ([true, true, false, true], .eq, 0, 0, []) :: ([false, true, false, false, true, true, false, true, true], .eq, 0, 0, []) :: ([false, true, true], .eq, (2), 0, [1]) :: ([false, true, true], .eq, (-1), 0, [1]) :: ([true, true, false, true], .eq, 0, 0, []) :: ([false, true, false, false, true, true, false, true, true], .eq, 0, 0, []) :: ([false, true, true], .eq, (3), 0, [1]) :: ([false, true, true], .eq, (-1), 0, [1]) :: ([true, true, false, true], .eq, 0, 0, []) :: ([false, true, false, false, true, true, true], .eq, 0, 0, [8, 45, 1]) :: ([true, false, false], .eq, 0, 0, [0, 1]) :: ([false, true, true], .eq, (4), 0, [1]) :: ([false, true, false, false, true, false, false, false, true, true], .eq, 0, 0, [0, 20]) :: ([false, true, false, false, true, true, true], .eq, 0, 0, [8, 46, 1]) :: ([true, false, false], .eq, 0, 0, [0, 1]) :: ([false, true, true], .eq, (4), 0, [1]) :: ([false, true, true], .eq, (40), 0, [2]) :: ([false, true, false, false, true, false, false, false, false, true], .eq, 0, 0, [2]) :: ([false, true, false, false, true, true, true], .eq, 0, 0, [8, 47, 1]) :: ([true, false, false], .eq, 0, 0, [0, 1]) :: ([false, true, true], .eq, (40), 0, [2]) :: ([false, true, false, false, true, false, false, false, true, true], .eq, 0, 0, [0, 20]) :: ([false, true, false, false, true, true, true], .eq, 0, 0, [8, 48, 1]) :: ([false, true, false, true, false, false, false], .eq, 0, 0, []) :: []
def sykt129 (pc : Nat) : List syQ := (cond (Nat.beq pc 0) syk129_0 [])
def syk902_18 : List syQ := ([false, false, false], .eq, 0, 0, [3, 1]) :: []
def syk902_0 : List syQ := ([false, true, false, false, true, false, false, true, false, false], .eq, 0, 0, [7, 8]) :: ([false, true, false, false, true, true, false, true, true], .eq, 0, 0, []) :: ([false, true, false, false, true, false, false, false, false, false], .eq, 0, 0, [2, 0, 0, 7, 2]) :: ([false, false, true, false, true, true, false, false, true], .eq, 0, 0, [1, 1]) :: ([false, true, false, false, true, false, false, true, false, false], .eq, 0, 0, [8, 49]) :: ([false, true, false, false, true, true, false, true, true], .eq, 0, 0, []) :: ([false, true, false, false, true, false, false, false, false, false], .eq, 0, 0, [2, 129, 0, 8, 1]) :: ([false, false, true, false, true, true, false, false, true], .eq, 0, 0, [2, 1]) :: ([false, true, true], .eq, (0), 0, [1]) :: ([false, false, true, false, true, true, true], .eq, 0, 0, [3, 1]) :: syk902_18
def sykt902 (pc : Nat) : List syQ := (cond (Nat.blt pc 18) (cond (Nat.beq pc 0) syk902_0 []) (cond (Nat.beq pc 18) syk902_18 []))
def sykt__1 (m pc : Nat) : List syQ := (cond (Nat.beq m 0) (sykt0 pc) [])
def sykt__2 (m pc : Nat) : List syQ := (cond (Nat.blt m 2) (cond (Nat.beq m 1) (sykt1 pc) []) (cond (Nat.beq m 2) (sykt2 pc) []))
def sykt__3 (m pc : Nat) : List syQ := (cond (Nat.blt m 4) (cond (Nat.beq m 3) (sykt3 pc) []) (cond (Nat.beq m 4) (sykt4 pc) []))
def sykt__4 (m pc : Nat) : List syQ := (cond (Nat.blt m 6) (cond (Nat.beq m 5) (sykt5 pc) []) (cond (Nat.beq m 6) (sykt6 pc) []))
def sykt__5 (m pc : Nat) : List syQ := (cond (Nat.blt m 8) (cond (Nat.beq m 7) (sykt7 pc) []) (cond (Nat.beq m 8) (sykt8 pc) []))
def sykt__6 (m pc : Nat) : List syQ := (cond (Nat.blt m 902) (cond (Nat.beq m 129) (sykt129 pc) []) (cond (Nat.beq m 902) (sykt902 pc) []))
def sykt (m pc : Nat) : List syQ := cond (Nat.blt pc (sysz m)) (cond (Nat.blt m 5) (cond (Nat.blt m 1) (sykt__1 m pc) (cond (Nat.blt m 3) (sykt__2 m pc) (sykt__3 m pc))) (cond (Nat.blt m 7) (sykt__4 m pc) (cond (Nat.blt m 129) (sykt__5 m pc) (sykt__6 m pc)))) []
/-! held against decode -/
def sytc (m pc : Nat) : Bool := match sytab m pc with
  | none => true
  | some q => decide (decode (zB m) pc = .ok (q.1, q.2.1)) && sychk m pc q.1 q.2.1 q.2.2
def sykb (m : Nat) : Nat → List syQ → Bool
  | _, [] => true
  | pc, q :: K => match sytab m pc with
    | none => false
    | some w => decide (q = syenc w.1 w.2.2) && sykb m (pc + w.2.1) K
/-! ===== that table held against decode ===== -/
theorem sytv_0 : ∀ i, i < 40 → ∀ pc, pc < sysz (0 + i) → sytc (0 + i) pc = true := by decide +kernel
theorem sykv_0 : ∀ i, i < 40 → ∀ pc, pc < sysz (0 + i) → sykb (0 + i) pc (sykt (0 + i) pc) = true := by decide +kernel
theorem sytv_1 : ∀ i, i < 50 → ∀ pc, pc < sysz (40 + i) → sytc (40 + i) pc = true := by decide +kernel
theorem sykv_1 : ∀ i, i < 50 → ∀ pc, pc < sysz (40 + i) → sykb (40 + i) pc (sykt (40 + i) pc) = true := by decide +kernel
theorem sytv_2 : ∀ i, i < 39 → ∀ pc, pc < sysz (90 + i) → sytc (90 + i) pc = true := by decide +kernel
theorem sykv_2 : ∀ i, i < 39 → ∀ pc, pc < sysz (90 + i) → sykb (90 + i) pc (sykt (90 + i) pc) = true := by decide +kernel
theorem sytv_3 : ∀ i, i < 21 → ∀ pc, pc < sysz (129 + i) → sytc (129 + i) pc = true := by decide +kernel
theorem sykv_3 : ∀ i, i < 21 → ∀ pc, pc < sysz (129 + i) → sykb (129 + i) pc (sykt (129 + i) pc) = true := by decide +kernel
theorem sytv_4 : ∀ i, i < 30 → ∀ pc, pc < sysz (150 + i) → sytc (150 + i) pc = true := by decide +kernel
theorem sykv_4 : ∀ i, i < 30 → ∀ pc, pc < sysz (150 + i) → sykb (150 + i) pc (sykt (150 + i) pc) = true := by decide +kernel
theorem sytv_5 : ∀ i, i < 20 → ∀ pc, pc < sysz (180 + i) → sytc (180 + i) pc = true := by decide +kernel
theorem sykv_5 : ∀ i, i < 20 → ∀ pc, pc < sysz (180 + i) → sykb (180 + i) pc (sykt (180 + i) pc) = true := by decide +kernel
theorem sytv_6 : ∀ i, i < 16 → ∀ pc, pc < sysz (200 + i) → sytc (200 + i) pc = true := by decide +kernel
theorem sykv_6 : ∀ i, i < 16 → ∀ pc, pc < sysz (200 + i) → sykb (200 + i) pc (sykt (200 + i) pc) = true := by decide +kernel
theorem sytw_0 : ∀ i, i < 60 → sytc 902 (0 + i) = true := by decide +kernel
theorem sytv_l (pc : Nat) (h : pc < sysz 902) : sytc 902 pc = true := by
  have e : sysz 902 = 19 := by decide +kernel
  rw [e] at h
  by_cases h0 : pc < 60
  · have g := sytw_0 (pc - 0) (by omega); rw [show 0 + (pc - 0) = pc by omega] at g; exact g
  omega
theorem sykv_l : ∀ pc, pc < sysz 902 → sykb 902 pc (sykt 902 pc) = true := by decide +kernel
theorem sytc_all (m pc : Nat) : sytc m pc = true := by
  by_cases hz : pc < sysz m
  · by_cases hm : m < 216
    · by_cases h0 : m < 40
      · have h := sytv_0 (m - 0) (by omega) pc (by rw [show 0 + (m - 0) = m by omega]; exact hz)
        rw [show 0 + (m - 0) = m by omega] at h
        exact h
      by_cases h1 : m < 90
      · have h := sytv_1 (m - 40) (by omega) pc (by rw [show 40 + (m - 40) = m by omega]; exact hz)
        rw [show 40 + (m - 40) = m by omega] at h
        exact h
      by_cases h2 : m < 129
      · have h := sytv_2 (m - 90) (by omega) pc (by rw [show 90 + (m - 90) = m by omega]; exact hz)
        rw [show 90 + (m - 90) = m by omega] at h
        exact h
      by_cases h3 : m < 150
      · have h := sytv_3 (m - 129) (by omega) pc (by rw [show 129 + (m - 129) = m by omega]; exact hz)
        rw [show 129 + (m - 129) = m by omega] at h
        exact h
      by_cases h4 : m < 180
      · have h := sytv_4 (m - 150) (by omega) pc (by rw [show 150 + (m - 150) = m by omega]; exact hz)
        rw [show 150 + (m - 150) = m by omega] at h
        exact h
      by_cases h5 : m < 200
      · have h := sytv_5 (m - 180) (by omega) pc (by rw [show 180 + (m - 180) = m by omega]; exact hz)
        rw [show 180 + (m - 180) = m by omega] at h
        exact h
      by_cases h6 : m < 216
      · have h := sytv_6 (m - 200) (by omega) pc (by rw [show 200 + (m - 200) = m by omega]; exact hz)
        rw [show 200 + (m - 200) = m by omega] at h
        exact h
      omega
    · by_cases hl : m = 902
      · subst hl; exact sytv_l pc hz
      · exfalso
        unfold sysz at hz
        rw [show Nat.blt m 216 = false by cases hb : Nat.blt m 216 with | true => exact absurd (Nat.blt_eq.mp hb) hm | false => rfl, show Nat.beq m 902 = false by cases hb : Nat.beq m 902 with | true => exact absurd (Nat.eq_of_beq_eq_true hb) hl | false => rfl] at hz
        exact absurd hz (Nat.not_lt_zero _)
  · have hb : Nat.blt pc (sysz m) = false := by cases hb : Nat.blt pc (sysz m) with | true => exact absurd (Nat.blt_eq.mp hb) hz | false => rfl
    unfold sytc sytab
    rw [hb]
    rfl
theorem sykc_all (m pc : Nat) : sykb m pc (sykt m pc) = true := by
  by_cases hz : pc < sysz m
  · by_cases hm : m < 216
    · by_cases h0 : m < 40
      · have h := sykv_0 (m - 0) (by omega) pc (by rw [show 0 + (m - 0) = m by omega]; exact hz)
        rw [show 0 + (m - 0) = m by omega] at h
        exact h
      by_cases h1 : m < 90
      · have h := sykv_1 (m - 40) (by omega) pc (by rw [show 40 + (m - 40) = m by omega]; exact hz)
        rw [show 40 + (m - 40) = m by omega] at h
        exact h
      by_cases h2 : m < 129
      · have h := sykv_2 (m - 90) (by omega) pc (by rw [show 90 + (m - 90) = m by omega]; exact hz)
        rw [show 90 + (m - 90) = m by omega] at h
        exact h
      by_cases h3 : m < 150
      · have h := sykv_3 (m - 129) (by omega) pc (by rw [show 129 + (m - 129) = m by omega]; exact hz)
        rw [show 129 + (m - 129) = m by omega] at h
        exact h
      by_cases h4 : m < 180
      · have h := sykv_4 (m - 150) (by omega) pc (by rw [show 150 + (m - 150) = m by omega]; exact hz)
        rw [show 150 + (m - 150) = m by omega] at h
        exact h
      by_cases h5 : m < 200
      · have h := sykv_5 (m - 180) (by omega) pc (by rw [show 180 + (m - 180) = m by omega]; exact hz)
        rw [show 180 + (m - 180) = m by omega] at h
        exact h
      by_cases h6 : m < 216
      · have h := sykv_6 (m - 200) (by omega) pc (by rw [show 200 + (m - 200) = m by omega]; exact hz)
        rw [show 200 + (m - 200) = m by omega] at h
        exact h
      omega
    · by_cases hl : m = 902
      · subst hl; exact sykv_l pc hz
      · exfalso
        unfold sysz at hz
        rw [show Nat.blt m 216 = false by cases hb : Nat.blt m 216 with | true => exact absurd (Nat.blt_eq.mp hb) hm | false => rfl, show Nat.beq m 902 = false by cases hb : Nat.beq m 902 with | true => exact absurd (Nat.eq_of_beq_eq_true hb) hl | false => rfl] at hz
        exact absurd hz (Nat.not_lt_zero _)
  · have hb : Nat.blt pc (sysz m) = false := by cases hb : Nat.blt pc (sysz m) with | true => exact absurd (Nat.blt_eq.mp hb) hz | false => rfl
    unfold sykt
    rw [hb]
    rfl
theorem sytab_ok (m pc : Nat) (i : Instr) (n : Nat) (r : List Nat) (h : sytab m pc = some (i, n, r)) : decode (zB m) pc = .ok (i, n) ∧ sychk m pc i n r = true := by
  have g := sytc_all m pc
  unfold sytc at g
  rw [h] at g
  exact ⟨syd (syand g).1, (syand g).2⟩
theorem sykb_ok (m : Nat) : ∀ (K : List syQ) (pc : Nat), sykb m pc K = true → syKok m pc K := by
  intro K
  induction K with
  | nil => intro _ _; trivial
  | cons q K ih =>
    intro pc h
    have h : (match sytab m pc with
      | none => false
      | some w => decide (q = syenc w.1 w.2.2) && sykb m (pc + w.2.1) K) = true := h
    cases ht : sytab m pc with
    | none => rw [ht] at h; cases h
    | some w =>
      rw [ht] at h
      obtain ⟨i, n, r⟩ := w
      obtain ⟨h1, h2⟩ := syand h
      obtain ⟨g1, g2⟩ := sytab_ok _ _ _ _ _ ht
      exact ⟨i, n, r, g1, g2, syd h1, ih _ h2⟩
theorem sykt_ok (m pc : Nat) : syKok m pc (sykt m pc) := sykb_ok m _ _ (sykc_all m pc)
/-! ===== behind the makers ===== -/
def symI : syMI := [.inl (319, 3, .inl (-1)), .inl (319, 2, .inl (-1)), .inl (319, 1, .inl (-1)), .inl (319, 0, .inl (-1)), .inl (136, 21, .inl (-1)), .inl (176, 2, .inl (-1)), .inl (176, 1, .inl (-1)), .inl (176, 0, .inl (-1)), .inl (174, 5, .inl (100)), .inl (174, 4, .inl (100)), .inl (174, 3, .inl (100)), .inl (174, 2, .inl (100)), .inl (174, 1, .inl (100)), .inl (174, 0, .inl (100)), .inl (133, 0, .inl (-1)), .inl (131, 0, .inl (-1)), .inl (129, 0, .inl (-1)), .inl (127, 0, .inl (-1)), .inl (118, 1, .inl (-1)), .inl (118, 0, .inl (0)), .inl (110, 1, .inl (-1)), .inl (110, 0, .inl (0)), .inl (102, 1, .inl (-1)), .inl (102, 0, .inl (0)), .inl (100, 5, .inl (100)), .inl (100, 4, .inl (100)), .inl (100, 3, .inl (100)), .inl (100, 2, .inl (100)), .inl (100, 1, .inl (100)), .inl (100, 0, .inl (100)), .inl (86, 1, .inl (-1)), .inl (86, 0, .inl (0)), .inl (78, 1, .inl (-1)), .inl (78, 0, .inl (0)), .inl (70, 1, .inl (-1)), .inl (70, 0, .inl (0)), .inl (68, 5, .inl (100)), .inl (68, 4, .inl (100)), .inl (68, 3, .inl (100)), .inl (68, 2, .inl (100)), .inl (68, 1, .inl (100)), .inl (68, 0, .inl (100)), .inl (55, 7, .inl (-1)), .inl (48, 7, .inl (-1)), .inl (41, 7, .inl (-1)), .inl (34, 7, .inl (-1)), .inl (27, 7, .inl (-1)), .inl (20, 7, .inl (-1))]
def symR : syMR := [.inl (136, 48, (some 326)), .inl (136, 47, (some 321)), .inr (.inl (321, 4)), .inl (136, 46, (some 320)), .inl (136, 45, (some 319)), .inl (136, 44, (some 230)), .inr (.inr (230, 4, 21)), .inl (136, 43, (some 225)), .inr (.inl (225, 4)), .inl (136, 42, (some 220)), .inr (.inl (220, 4)), .inl (136, 41, (some 215)), .inr (.inl (215, 4)), .inl (136, 40, (some 210)), .inr (.inl (210, 4)), .inl (136, 39, (some 209)), .inl (136, 29, (some 208)), .inl (136, 28, (some 207)), .inl (136, 27, (some 206)), .inl (136, 26, (some 205)), .inl (136, 19, (some 201)), .inr (.inl (201, 3)), .inl (136, 18, (some 197)), .inr (.inl (197, 3)), .inl (136, 17, (some 193)), .inr (.inl (193, 3)), .inl (136, 16, (some 189)), .inr (.inl (189, 3)), .inl (136, 15, (some 185)), .inr (.inl (185, 3)), .inl (136, 14, (some 181)), .inr (.inl (181, 3)), .inl (136, 13, (some 177)), .inr (.inl (177, 3)), .inl (136, 12, (some 176)), .inl (136, 11, (some 175)), .inl (136, 8, (some 174)), .inl (136, 7, (some 167)), .inr (.inl (167, 6)), .inl (136, 6, (some 160)), .inr (.inl (160, 6)), .inl (136, 5, (some 153)), .inr (.inl (153, 6)), .inl (136, 4, (some 146)), .inr (.inl (146, 6)), .inl (136, 3, (some 139)), .inr (.inl (139, 6)), .inl (136, 2, (some 138)), .inl (136, 1, (some 137)), .inl (16, 7, (some 135)), .inl (126, 3, (some 133)), .inl (133, 2, (some 134)), .inl (126, 2, (some 131)), .inl (131, 2, (some 132)), .inl (126, 1, (some 129)), .inl (129, 2, (some 130)), .inl (126, 0, (some 127)), .inl (127, 2, (some 128)), .inl (16, 6, (some 126)), .inl (16, 5, (some 94)), .inl (101, 2, (some 118)), .inl (118, 13, (some 125)), .inl (118, 12, (some 124)), .inl (118, 11, (some 123)), .inl (118, 10, (some 122)), .inl (118, 9, (some 121)), .inl (118, 8, (some 120)), .inl (118, 6, (some 119)), .inl (101, 1, (some 110)), .inl (110, 13, (some 117)), .inl (110, 12, (some 116)), .inl (110, 11, (some 115)), .inl (110, 10, (some 114)), .inl (110, 9, (some 113)), .inl (110, 8, (some 112)), .inl (110, 6, (some 111)), .inl (101, 0, (some 102)), .inl (102, 13, (some 109)), .inl (102, 12, (some 108)), .inl (102, 11, (some 107)), .inl (102, 10, (some 106)), .inl (102, 9, (some 105)), .inl (102, 8, (some 104)), .inl (102, 6, (some 103)), .inl (94, 1, (some 95)), .inl (94, 0, (some 19)), .inl (94, 3, (some 101)), .inl (94, 2, (some 99)), .inl (99, 0, (some 100)), .inl (95, 2, (some 98)), .inl (95, 1, (some 97)), .inl (95, 0, (some 96)), .inl (16, 4, (some 66)), .inl (69, 2, (some 86)), .inl (86, 13, (some 93)), .inl (86, 12, (some 92)), .inl (86, 11, (some 91)), .inl (86, 10, (some 90)), .inl (86, 9, (some 89)), .inl (86, 8, (some 88)), .inl (86, 6, (some 87)), .inl (69, 1, (some 78)), .inl (78, 13, (some 85)), .inl (78, 12, (some 84)), .inl (78, 11, (some 83)), .inl (78, 10, (some 82)), .inl (78, 9, (some 81)), .inl (78, 8, (some 80)), .inl (78, 6, (some 79)), .inl (69, 0, (some 70)), .inl (70, 13, (some 77)), .inl (70, 12, (some 76)), .inl (70, 11, (some 75)), .inl (70, 10, (some 74)), .inl (70, 9, (some 73)), .inl (70, 8, (some 72)), .inl (70, 6, (some 71)), .inl (66, 1, (some 62)), .inl (66, 0, (some 19)), .inl (66, 3, (some 69)), .inl (66, 2, (some 67)), .inl (67, 0, (some 68)), .inl (16, 3, (some 62)), .inl (62, 2, (some 65)), .inl (62, 1, (some 64)), .inl (62, 0, (some 63)), .inl (19, 5, (some 55)), .inl (55, 5, (some 61)), .inl (55, 4, (some 60)), .inl (55, 3, (some 59)), .inl (55, 2, (some 58)), .inl (55, 1, (some 57)), .inl (55, 0, (some 56)), .inl (19, 4, (some 48)), .inl (48, 5, (some 54)), .inl (48, 4, (some 53)), .inl (48, 3, (some 52)), .inl (48, 2, (some 51)), .inl (48, 1, (some 50)), .inl (48, 0, (some 49)), .inl (19, 3, (some 41)), .inl (41, 5, (some 47)), .inl (41, 4, (some 46)), .inl (41, 3, (some 45)), .inl (41, 2, (some 44)), .inl (41, 1, (some 43)), .inl (41, 0, (some 42)), .inl (19, 2, (some 34)), .inl (34, 5, (some 40)), .inl (34, 4, (some 39)), .inl (34, 3, (some 38)), .inl (34, 2, (some 37)), .inl (34, 1, (some 36)), .inl (34, 0, (some 35)), .inl (19, 1, (some 27)), .inl (27, 5, (some 33)), .inl (27, 4, (some 32)), .inl (27, 3, (some 31)), .inl (27, 2, (some 30)), .inl (27, 1, (some 29)), .inl (27, 0, (some 28)), .inl (19, 0, (some 20)), .inl (20, 5, (some 26)), .inl (20, 4, (some 25)), .inl (20, 3, (some 24)), .inl (20, 2, (some 23)), .inl (20, 1, (some 22)), .inl (20, 0, (some 21)), .inl (16, 1, (some 19)), .inl (16, 0, (some 17)), .inl (17, 0, (some 18))]
def symK : syMK := [.inl (326, 20, 40), .inr (.inl (321, 25, 4, 40)), .inl (320, 20, 4), .inl (319, 20, 4), .inr (.inr (230, 4, 21, 12)), .inr (.inl (225, 25, 4, 3)), .inr (.inl (220, 25, 4, 3)), .inr (.inl (215, 25, 4, 4)), .inr (.inl (210, 25, 4, 6)), .inl (209, 21, 4096), .inl (208, 20, 120), .inl (207, 20, 240), .inl (206, 20, 240), .inl (205, 20, 240), .inr (.inl (201, 25, 3, 12)), .inr (.inl (197, 25, 3, 12)), .inr (.inl (193, 25, 3, 12)), .inr (.inl (189, 25, 3, 12)), .inr (.inl (185, 25, 3, 12)), .inr (.inl (181, 25, 3, 12)), .inr (.inl (177, 25, 3, 12)), .inl (176, 20, 3), .inl (175, 20, 3), .inl (174, 20, 6), .inr (.inl (167, 25, 6, 12)), .inr (.inl (160, 25, 6, 12)), .inr (.inl (153, 25, 6, 12)), .inr (.inl (146, 25, 6, 12)), .inr (.inl (139, 25, 6, 12)), .inl (138, 20, 6), .inl (137, 20, 6), .inl (136, 8, 0), .inl (135, 21, 4096), .inl (134, 20, 40), .inl (133, 4, 0), .inl (132, 20, 40), .inl (131, 4, 0), .inl (130, 20, 40), .inl (129, 4, 0), .inl (128, 20, 40), .inl (127, 4, 0), .inl (126, 24, 4), .inl (125, 20, 12), .inl (124, 20, 12), .inl (123, 20, 12), .inl (122, 20, 12), .inl (121, 20, 12), .inl (120, 20, 12), .inl (119, 20, 12), .inl (118, 5, 0), .inl (117, 20, 12), .inl (116, 20, 12), .inl (115, 20, 12), .inl (114, 20, 12), .inl (113, 20, 12), .inl (112, 20, 12), .inl (111, 20, 12), .inl (110, 5, 0), .inl (109, 20, 12), .inl (108, 20, 12), .inl (107, 20, 12), .inl (106, 20, 12), .inl (105, 20, 12), .inl (104, 20, 12), .inl (103, 20, 12), .inl (102, 5, 0), .inl (101, 23, 3), .inl (100, 20, 6), .inl (99, 2, 0), .inl (98, 20, 0), .inl (97, 20, 0), .inl (96, 20, 0), .inl (95, 0, 0), .inl (94, 6, 0), .inl (93, 20, 12), .inl (92, 20, 12), .inl (91, 20, 12), .inl (90, 20, 12), .inl (89, 20, 12), .inl (88, 20, 12), .inl (87, 20, 12), .inl (86, 5, 0), .inl (85, 20, 12), .inl (84, 20, 12), .inl (83, 20, 12), .inl (82, 20, 12), .inl (81, 20, 12), .inl (80, 20, 12), .inl (79, 20, 12), .inl (78, 5, 0), .inl (77, 20, 12), .inl (76, 20, 12), .inl (75, 20, 12), .inl (74, 20, 12), .inl (73, 20, 12), .inl (72, 20, 12), .inl (71, 20, 12), .inl (70, 5, 0), .inl (69, 23, 3), .inl (68, 20, 6), .inl (67, 2, 0), .inl (66, 6, 0), .inl (65, 20, 240), .inl (64, 20, 240), .inl (63, 20, 240), .inl (62, 0, 0), .inl (61, 20, 12), .inl (60, 20, 12), .inl (59, 20, 12), .inl (58, 20, 12), .inl (57, 20, 12), .inl (56, 20, 12), .inl (55, 1, 0), .inl (54, 20, 12), .inl (53, 20, 12), .inl (52, 20, 12), .inl (51, 20, 12), .inl (50, 20, 12), .inl (49, 20, 12), .inl (48, 1, 0), .inl (47, 20, 12), .inl (46, 20, 12), .inl (45, 20, 12), .inl (44, 20, 12), .inl (43, 20, 12), .inl (42, 20, 12), .inl (41, 1, 0), .inl (40, 20, 12), .inl (39, 20, 12), .inl (38, 20, 12), .inl (37, 20, 12), .inl (36, 20, 12), .inl (35, 20, 12), .inl (34, 1, 0), .inl (33, 20, 12), .inl (32, 20, 12), .inl (31, 20, 12), .inl (30, 20, 12), .inl (29, 20, 12), .inl (28, 20, 12), .inl (27, 1, 0), .inl (26, 20, 12), .inl (25, 20, 12), .inl (24, 20, 12), .inl (23, 20, 12), .inl (22, 20, 12), .inl (21, 20, 12), .inl (20, 1, 0), .inl (19, 22, 6), .inl (18, 20, 120), .inl (17, 3, 0), .inl (16, 7, 0)]
def symM : syM := (symI, symR, symK, 327, 13301)
def sysL : syL := [(3, .inl 0), (2, syrf 136), (1, syrf 16), (0, syrf 0)]
def syu9 : syU := ((fun a _ => cond (Nat.blt a 3) none (some (.inl 0))), (fun _ _ => some none), (fun a => cond (Nat.beq a 0) (9999, 0) (cond (Nat.blt a 3) (30, 6) (cond (Nat.blt a 16) (98, 0) (99, 0)))), sykt)
def syc0 : syC := (40, [], (902, 0, syk902_0, [(0, syrf 0)], []), [], ([], [], [], 16, 0))
noncomputable def systep0 (u : syU) : syC → syR
  | (d, bx, (m, pc, K, l, st), rest, M) => cond (Nat.beq m 902 && Nat.beq pc 18) syno (systep u (d, bx, (m, pc, K, l, st), rest, M))
def syeq18 (c : syC) : Bool := decide (c.1 = 40) && decide (c.2.2.1.1 = 902) && decide (c.2.2.1.2.1 = 18) && decide (c.2.2.1.2.2.1 = syk902_18) && decide (c.2.2.1.2.2.2.1 = sysL) && c.2.2.1.2.2.2.2.isEmpty && c.2.2.2.1.isEmpty
  && decide (c.2.2.2.2.1 = symI) && decide (c.2.2.2.2.2.1 = symR) && decide (c.2.2.2.2.2.2.1 = symK) && decide (c.2.2.2.2.2.2.2.1 = 327) && decide (c.2.2.2.2.2.2.2.2 = 13301)
theorem symake9 : syrun (systep0 syu9) syeq18 3000 syc0 = true := by decide +kernel
theorem syblt {a b : Nat} (h : a < b) : Nat.blt a b = true := Nat.blt_eq.mpr h
theorem sybge {a b : Nat} (h : ¬ a < b) : Nat.blt a b = false := by
  cases hb : Nat.blt a b with
  | true => exact absurd (Nat.blt_eq.mp hb) h
  | false => rfl
theorem sybne {a b : Nat} (h : a ≠ b) : Nat.beq a b = false := by
  cases hb : Nat.beq a b with
  | true => exact absurd (Nat.eq_of_beq_eq_true hb) h
  | false => rfl
theorem syu9_ok (L : Nat) (xs : Nat → Int32) : syUok xs syu9 (zM0 L xs) := by
  refine ⟨fun a k v h => ?_, fun a k r h => Option.some.inj h, fun a h9 => ?_, fun m pc => sykt_ok m pc⟩
  · have h : cond (Nat.blt a 3) none (some (.inl 0)) = some v := h
    show (if a = 0 then xs k else if a = 1 then zUn k else if a = 2 then zAo k else 0) = _
    by_cases h3 : a < 3
    · rw [syblt h3] at h; cases h
    · rw [sybge h3] at h
      have h := Option.some.inj h
      subst h
      rw [if_neg (by omega), if_neg (by omega), if_neg (by omega)]
      rfl
  · have h9 : (cond (Nat.beq a 0) ((9999, 0) : Nat × Nat) (cond (Nat.blt a 3) (30, 6) (cond (Nat.blt a 16) (98, 0) (99, 0)))).1 ≠ 9999 := h9
    show (if a = 0 then ((30, L) : Nat × Nat) else if a = 1 ∨ a = 2 then (30, 6) else if a < 16 then (98, 0) else (99, 0)) = cond (Nat.beq a 0) (9999, 0) (cond (Nat.blt a 3) (30, 6) (cond (Nat.blt a 16) (98, 0) (99, 0)))
    by_cases h0 : a = 0
    · subst h0; exact absurd rfl h9
    · rw [if_neg h0, sybne h0]
      by_cases h3 : a < 3
      · rw [if_pos (by omega), syblt h3]; rfl
      · rw [if_neg (by omega), sybge h3]
        by_cases h16 : a < 16
        · rw [if_pos h16, syblt h16]; rfl
        · rw [if_neg h16, sybge h16]; rfl
theorem syO_ne (m : Nat) (h : m < 216 ∨ 900 ≤ m) : zO m ≠ 9999 := by
  rcases h with h | h
  · have key : ∀ y, y < 216 → zO y ≠ 9999 := by decide +kernel
    exact key m h
  · unfold zO zMt
    rw [if_neg (by omega)]
    split
    · decide
    · split
      · decide
      · decide
theorem zO_ne (m : Nat) : zO m ≠ 9999 := by
  by_cases h : m < 216
  · exact syO_ne m (Or.inl h)
  · by_cases h2 : 900 ≤ m
    · exact syO_ne m (Or.inr h2)
    · unfold zO zMt
      rw [if_pos (by omega)]
      have hl : zMs.length = 216 := by decide +kernel
      rw [List.getD_eq_getElem?_getD, List.getElem?_eq_none (by omega)]
      decide
/-! ===== from the law's entry to its loop ===== -/
theorem gate9 {L : Nat} {xs : Nat → Int32} {P : Option Value → zM → Prop} (h : qW (zEv 40) 902 P 18 (syl xs sysL) [] (syA (zM0 L xs) xs symM)) : qW (zEv 40) 902 P 0 [(0, .ref 0)] [] (zM0 L xs) := by
  have hu := syu9_ok L xs
  have hfin : ∀ c, syeq18 c = true → syG xs P (zM0 L xs) c := by
    intro c hc
    obtain ⟨d, bx, ⟨m, pc, K, l, st⟩, rest, MI, MR, MK, n, s⟩ := c
    intro hb hK hr
    obtain ⟨hc, k12⟩ := syand hc
    obtain ⟨hc, k11⟩ := syand hc
    obtain ⟨hc, k10⟩ := syand hc
    obtain ⟨hc, k9⟩ := syand hc
    obtain ⟨hc, k8⟩ := syand hc
    obtain ⟨hc, k7⟩ := syand hc
    obtain ⟨hc, k6⟩ := syand hc
    obtain ⟨hc, k5⟩ := syand hc
    obtain ⟨hc, k4⟩ := syand hc
    obtain ⟨hc, k3⟩ := syand hc
    obtain ⟨k1, k2⟩ := syand hc
    have e1 : d = 40 := syd k1
    have e2 : m = 902 := syd k2
    have e3 : pc = 18 := syd k3
    have e5 : l = sysL := syd k5
    have e6 : st = [] := List.isEmpty_iff.mp k6
    have e7 : rest = [] := List.isEmpty_iff.mp k7
    have e8 : MI = symI := syd k8
    have e9 : MR = symR := syd k9
    have e10 : MK = symK := syd k10
    have e11 : n = 327 := syd k11
    have e12 : s = 13301 := syd k12
    clear k1 k2 k3 k4 k5 k6 k7 k8 k9 k10 k11 k12
    subst e1 e2 e3 e5 e6 e7 e8 e9 e10 e11 e12
    exact h
  have g := syrun_ok (xs := xs) (P := P) (B := zM0 L xs) (step := systep0 (syu9)) (fun c c' hb hs hG => by
    obtain ⟨d, bx, ⟨m, pc, K, l, st⟩, rest, M⟩ := c
    have hs : cond (Nat.beq m 902 && Nat.beq pc 18) syno (systep (syu9) (d, bx, (m, pc, K, l, st), rest, M)) = .inl c' := hs
    cases hx : (Nat.beq m 902 && Nat.beq pc 18) with
    | true => rw [hx] at hs; exact (syno_inl hs).elim
    | false => rw [hx] at hs; exact systep_ok zO_ne hu hb hs hG) hfin 3000 syc0 symake9
  exact g (fun q hq => by cases hq) (sykt_ok 902 0) (fun f hf => by cases hf)
/-! ===== behind the makers: a desk on which nothing stands ===== -/
def yD0 : yD := (0, fun _ => yT0, 0, fun _ => 0, yW0, [], fun _ => (-1, 0))
noncomputable def gk (a : Nat) : Nat × Nat := syGK syu9 symK a
noncomputable def gr (a f : Nat) : Option (Option Nat) := syGR syu9 symR a f
noncomputable def gi (a k : Nat) : Option syI := syGI syu9 symI a k
def zB0 (L : Nat) (xs : Nat → Int32) : zM := syA (zM0 L xs) xs symM
theorem gk_z {L : Nat} {xs : Nat → Int32} {a t n : Nat} (h : gk a = (t, n)) (h9 : t ≠ 9999 := by decide) : zk (zB0 L xs) a = (t, n) := by
  have h : syGK syu9 symK a = (t, n) := h
  have g := syGK_ok (syu9_ok L xs).2.2.1 symK a (by rw [h]; exact h9)
  rw [h] at g; exact g
theorem gr_z {L : Nat} {xs : Nat → Int32} {a f : Nat} {r : Option Nat} (h : gr a f = some r) : zr (zB0 L xs) a f = r := syGR_ok (syu9_ok L xs).2.1 symR a f r h
theorem gi_z {L : Nat} {xs : Nat → Int32} {a k : Nat} {z : Int} (h : gi a k = some (.inl z)) : zi (zB0 L xs) a k = Int32.ofInt z := syGI_ok (syu9_ok L xs).1 symI a k (.inl z) h
theorem gi_0 {L : Nat} {xs : Nat → Int32} {a k : Nat} (h : gi a k = some (.inl 0)) : zi (zB0 L xs) a k = nI 0 := (gi_z h).trans (by decide)
theorem gi_m {L : Nat} {xs : Nat → Int32} {a k : Nat} (h : gi a k = some (.inl (-1))) : zi (zB0 L xs) a k = -1 := (gi_z h).trans (by decide)
theorem gi_h {L : Nat} {xs : Nat → Int32} {a k : Nat} (h : gi a k = some (.inl 100)) : zi (zB0 L xs) a k = 100 := (gi_z h).trans (by decide)
/-! kinds and references -/
theorem b_xk : ∀ q ∈ zXk, gk q.1 = q.2 ∧ q.2.1 ≠ 9999 := by decide +kernel
theorem b_xf : ∀ q ∈ zXf, gr q.1 q.2.1 = some (some q.2.2) := by decide +kernel
theorem z_SX (L : Nat) (xs : Nat → Int32) : SX (zB0 L xs) := ⟨fun q hq => gk_z (t := q.2.1) (n := q.2.2) (b_xk q hq).1 (b_xk q hq).2, fun q hq => gr_z (b_xf q hq)⟩
theorem b_pr : ∀ i, i < 6 → gk (20 + 7 * i) = (1, 0) ∧ ∀ f, f < 6 → gr (20 + 7 * i) f = some (some (20 + 7 * i + 1 + f)) ∧ gk (20 + 7 * i + 1 + f) = (20, 12) := by decide +kernel
theorem b_pu : ∀ u ∈ [67, 99], gk u = (2, 0) ∧ gr u 0 = some (some (u + 1)) ∧ gk (u + 1) = (20, 6) := by decide +kernel
theorem b_sg : ∀ b ∈ [70, 102], ∀ s, s < 3 → gk (b + 8 * s) = (5, 0) ∧ gr (b + 8 * s) 6 = some (some (b + 8 * s + 1)) ∧ (∀ f, f < 6 → gr (b + 8 * s) (8 + f) = some (some (b + 8 * s + 2 + f))) ∧ ∀ f, f < 7 → gk (b + 8 * s + 1 + f) = (20, 12) := by decide +kernel
theorem b_jo : ∀ q ∈ [(62, 240), (95, 0)], gk q.1 = (0, 0) ∧ ∀ f, f < 3 → gr q.1 f = some (some (q.1 + 1 + f)) ∧ gk (q.1 + 1 + f) = (20, q.2) := by decide +kernel
theorem b_ro : ∀ i, i < 4 → gk (127 + 2 * i) = (4, 0) ∧ gr (127 + 2 * i) 2 = some (some (127 + 2 * i + 1)) ∧ gk (127 + 2 * i + 1) = (20, 40) := by decide +kernel
theorem b_wo : ∀ q ∈ [(66, 67, 62), (94, 99, 95)], gk q.1 = (6, 0) ∧ gr q.1 0 = some (some 19) ∧ gr q.1 1 = some (some q.2.2) ∧ gr q.1 2 = some (some q.2.1) ∧ gr q.1 3 = some (some (q.2.1 + 2)) ∧ gk (q.2.1 + 2) = (23, 3) ∧ ∀ s, s < 3 → gr (q.2.1 + 2) s = some (some (q.2.1 + 3 + 8 * s)) := by decide +kernel
theorem b_rd : gk 17 = (3, 0) ∧ gr 17 0 = some (some 18) ∧ gk 18 = (20, 120) := by decide +kernel
theorem b_dk : gk 16 = (7, 0) ∧ gr 16 0 = some (some 17) ∧ gr 16 1 = some (some 19) ∧ gk 19 = (22, 6) ∧ (∀ i, i < 6 → gr 19 i = some (some (20 + 7 * i))) ∧ gr 16 3 = some (some 62) ∧ gr 16 4 = some (some 66) ∧ gr 16 5 = some (some 94) ∧ gr 16 6 = some (some 126) ∧
  gk 126 = (24, 4) ∧ (∀ i, i < 4 → gr 126 i = some (some (127 + 2 * i))) ∧ gr 16 7 = some (some 135) ∧ gk 135 = (21, 4096) := by decide +kernel
theorem b_st : gk 1 = (30, 6) ∧ gk 2 = (30, 6) := by decide +kernel
def syLo : syMI → Bool
  | [] => true
  | .inl q :: t => Nat.ble 3 q.1 && syLo t
  | .inr q :: t => Nat.ble 3 q.2.2.1 && syLo t
theorem syLo_ok {B : zM} {xs : Nat → Int32} {a : Nat} (ha : a < 3) (j : Nat) : ∀ M : syMI, syLo M = true → syFI B xs M a j = zi B a j
  | [], _ => rfl
  | .inl q :: t, h => by
    obtain ⟨h1, h2⟩ := syand h
    have h1 := Nat.ble_eq.mp h1
    show zup (syFI B xs t) q.1 q.2.1 (syi xs q.2.2) a j = _
    have e : zup (syFI B xs t) q.1 q.2.1 (syi xs q.2.2) a j = syFI B xs t a j := if_neg (fun c => by have := c.1; omega)
    rw [e]; exact syLo_ok ha j t h2
  | .inr q :: t, h => by
    obtain ⟨h1, h2⟩ := syand h
    have h1 := Nat.ble_eq.mp h1
    show (if a = q.2.2.1 ∧ q.2.2.2.1 ≤ j ∧ j < q.2.2.2.1 + q.2.2.2.2 then syFI B xs t q.1 (q.2.1 + (j - q.2.2.2.1)) else syFI B xs t a j) = _
    rw [if_neg (fun c => by have := c.1; omega)]
    exact syLo_ok ha j t h2
theorem z_SC (L : Nat) (xs : Nat → Int32) : SC (zB0 L xs) := by
  have pu : ∀ u, u = 67 ∨ u = 99 → SPu (zB0 L xs) u := fun u hu => by
    have h := b_pu u (by rcases hu with rfl | rfl <;> simp)
    exact ⟨gk_z h.1, gr_z h.2.1, gk_z h.2.2⟩
  have sg : ∀ b, b = 70 ∨ b = 102 → ∀ s, s < 3 → SSg (zB0 L xs) (b + 8 * s) := fun b hb s hs => by
    have h := b_sg b (by rcases hb with rfl | rfl <;> simp) s hs
    exact ⟨gk_z h.1, gr_z h.2.1, fun f hf => gr_z (h.2.2.1 f hf), fun f hf => gk_z (h.2.2.2 f hf)⟩
  have jo : ∀ q, q = (62, 240) ∨ q = (95, 0) → SJo (zB0 L xs) q.1 q.2 := fun q hq => by
    have h := b_jo q (by rcases hq with rfl | rfl <;> simp)
    exact ⟨gk_z h.1, fun f hf => ⟨gr_z (h.2 f hf).1, gk_z (h.2 f hf).2⟩⟩
  have wo : ∀ q : Nat × Nat × Nat, q = (66, 67, 62) ∨ q = (94, 99, 95) → SWo (zB0 L xs) q.1 q.2.1 q.2.2 := fun q hq => by
    have h := b_wo q (by rcases hq with rfl | rfl <;> simp)
    exact ⟨gk_z h.1, gr_z h.2.1, gr_z h.2.2.1, gr_z h.2.2.2.1, gr_z h.2.2.2.2.1, gk_z h.2.2.2.2.2.1, fun s hs => gr_z (h.2.2.2.2.2.2 s hs)⟩
  have lo : ∀ a, a < 3 → ∀ j, zi (zB0 L xs) a j = zi (zM0 L xs) a j := fun a ha j => syLo_ok ha j symI (by decide +kernel)
  have d := b_dk
  refine ⟨⟨gk_z d.1, gr_z d.2.1, gr_z d.2.2.1, gk_z d.2.2.2.1, fun i hi => gr_z (d.2.2.2.2.1 i hi), gr_z d.2.2.2.2.2.1, gr_z d.2.2.2.2.2.2.1, gr_z d.2.2.2.2.2.2.2.1, gr_z d.2.2.2.2.2.2.2.2.1, gk_z d.2.2.2.2.2.2.2.2.2.1, fun i hi => gr_z (d.2.2.2.2.2.2.2.2.2.2.1 i hi), gr_z d.2.2.2.2.2.2.2.2.2.2.2.1, gk_z d.2.2.2.2.2.2.2.2.2.2.2.2⟩,
    ⟨gk_z b_rd.1, gr_z b_rd.2.1, gk_z b_rd.2.2⟩, fun i hi => ⟨gk_z (b_pr i hi).1, fun f hf => ⟨gr_z ((b_pr i hi).2 f hf).1, gk_z ((b_pr i hi).2 f hf).2⟩⟩, jo _ (Or.inl rfl), jo _ (Or.inr rfl), wo _ (Or.inl rfl), wo _ (Or.inr rfl), pu _ (Or.inl rfl), pu _ (Or.inr rfl), sg _ (Or.inl rfl), sg _ (Or.inr rfl),
    fun i hi => ⟨gk_z (b_ro i hi).1, gr_z (b_ro i hi).2.1, gk_z (b_ro i hi).2.2⟩, gk_z b_st.1, gk_z b_st.2, fun j => (lo 1 (by omega) j).trans ?_, fun j => (lo 2 (by omega) j).trans ?_⟩
  · show (if (1 : Nat) = 0 then xs j else if (1 : Nat) = 1 then zUn j else if (1 : Nat) = 2 then zAo j else 0) = _
    rw [if_neg (by omega), if_pos rfl]
  · show (if (2 : Nat) = 0 then xs j else if (2 : Nat) = 1 then zUn j else if (2 : Nat) = 2 then zAo j else 0) = _
    rw [if_neg (by omega), if_neg (by omega), if_pos rfl]
/-! values -/
theorem b_c0 : gi 16 2 = some (.inl 0) ∧ gi 17 1 = some (.inl 0) ∧ gi 62 3 = some (.inl 0) ∧ gi 67 1 = some (.inl 0) ∧ gi 67 2 = some (.inl 0) ∧ (∀ k, k < 6 → gi 68 k = some (.inl 100)) ∧ ∀ i, i < 4 → gi (127 + 2 * i) 0 = some (.inl (-1)) ∧ gi (127 + 2 * i) 1 = some (.inl 0) := by decide +kernel
theorem b_cs : ∀ s, s < 3 → gi (70 + 8 * s) 0 = some (.inl 0) ∧ gi (70 + 8 * s) 1 = some (.inl (-1)) ∧ gr (70 + 8 * s) 2 = some none := by decide +kernel
theorem b_cs2 : ∀ s, s < 3 → gi (70 + 8 * s) 3 = some (.inl 0) ∧ gi (70 + 8 * s) 4 = some (.inl 0) ∧ gi (70 + 8 * s) 5 = some (.inl 0) ∧ gi (70 + 8 * s) 7 = some (.inl 0) := by decide +kernel
theorem b_cs3 : ∀ s, s < 3 → ∀ f, f < 4 → ∀ k, k < 12 → gi (70 + 8 * s + 4 + f) k = some (.inl 0) := by decide +kernel
theorem gm_z : gm yS0 1 = 0 ∧ gm yS0 2 = 0 ∧ gm yS0 3 = 0 := by decide
theorem b_r0 : gi 136 0 = some (.inl 0) ∧ gi 136 9 = some (.inl 0) ∧ gi 136 10 = some (.inl 0) ∧ gi 136 20 = some (.inl 0) ∧ gi 136 21 = some (.inl (-1)) ∧ gi 136 24 = some (.inl 0) ∧ gi 136 25 = some (.inl 0) ∧ gi 136 30 = some (.inl 0) ∧ (∀ k, k < 6 → gi 174 k = some (.inl 100)) ∧ ∀ i, i < 4 → gi 319 i = some (.inl (-1)) ∧ gi 320 i = some (.inl 0) := by decide +kernel
theorem b_rs : ∀ s, s < 3 → gi 175 s = some (.inl 0) ∧ gi 176 s = some (.inl (-1)) := by decide +kernel
theorem b_rs2 : ∀ s, s < 3 → ∀ k, k < 12 → gi (178 + s) k = some (.inl 0) ∧ gi (190 + s) k = some (.inl 0) ∧ gi (194 + s) k = some (.inl 0) := by decide +kernel
theorem b_rs3 : ∀ s, s < 3 → ∀ k, k < 12 → gi (198 + s) k = some (.inl 0) ∧ gi (202 + s) k = some (.inl 0) := by decide +kernel
theorem OKT0 : (0 : Nat) ≤ 6 ∧ ∀ i, i < 0 → OKT ((fun _ => yT0 : Nat → yT) i) := ⟨by omega, fun i hi => absurd hi (Nat.not_lt_zero _)⟩
theorem z_RC (L : Nat) (xs : Nat → Int32) : RC (zB0 L xs) yD0 := by
  have c := b_c0
  refine ⟨⟨z_SC L xs, Or.inl ⟨rfl, rfl, rfl, rfl⟩, fun i hi => absurd hi (Nat.not_lt_zero _), OKW_0 OKT0, ⟨fun k hk => gi_h (c.2.2.2.2.2.1 k hk), gi_0 c.2.2.2.1, gi_0 c.2.2.2.2.1⟩, fun s hs => ?_, rfl, gi_0 c.2.2.1, fun k hk => absurd hk (Nat.not_lt_zero _)⟩, gi_0 c.1, ⟨Nat.zero_le _, gi_0 c.2.1, fun k hk => absurd hk (Nat.not_lt_zero _)⟩, fun i hi => ⟨gi_m (c.2.2.2.2.2.2 i hi).1, gi_0 (c.2.2.2.2.2.2 i hi).2⟩⟩
  have h := b_cs s hs
  have h2 := b_cs2 s hs
  have e : 67 + 3 + 8 * s = 70 + 8 * s := by omega
  show RS (zB0 L xs) (67 + 3 + 8 * s) _ _ yS0
  rw [e]
  refine ⟨⟨gi_0 h.1, gi_m h.2.1, gr_z h.2.2⟩, ⟨(gi_0 h2.1).trans (congrArg nI gm_z.1.symm), (gi_0 h2.2.1).trans (congrArg nI gm_z.2.1.symm), (gi_0 h2.2.2.1).trans (congrArg nI gm_z.2.2.symm)⟩, ⟨gi_0 h2.2.2.2, fun k hk => absurd hk (Nat.not_lt_zero _)⟩, fun k hk => absurd hk (Nat.not_lt_zero _), fun k _ q => absurd (show (0 : Nat) = 1 from q) (by omega), fun k hk => ?_⟩
  exact ⟨gi_0 (b_cs3 s hs 0 (by omega) k hk), gi_0 (b_cs3 s hs 1 (by omega) k hk), gi_0 (b_cs3 s hs 2 (by omega) k hk), gi_0 (b_cs3 s hs 3 (by omega) k hk)⟩
theorem z_RX (L : Nat) (xs : Nat → Int32) : RX (zB0 L xs) yD0 0 := by
  have c := b_r0
  have b21 : zi (zB0 L xs) 136 21 = -1 := gi_m c.2.2.2.2.1
  refine ⟨⟨z_SX L xs, fun i hi => absurd hi (Nat.not_lt_zero _), OKW_0 OKT0, ⟨fun k hk => gi_h (c.2.2.2.2.2.2.2.2.1 k hk), gi_0 c.2.1, gi_0 c.2.2.1⟩, fun s hs => ?_, gi_0 c.2.2.2.1, ⟨gi_0 c.2.2.2.2.2.2.1, gi_0 c.2.2.2.2.2.1, fun k hk => absurd hk (Nat.not_lt_zero _)⟩, ⟨none, b21, fun s hs h0 k hk => rfl⟩⟩, b21, gi_0 c.1, ⟨Nat.zero_le _, gi_0 c.2.2.2.2.2.2.2.1, fun k hk => absurd hk (Nat.not_lt_zero _)⟩, fun i hi => ⟨gi_m (c.2.2.2.2.2.2.2.2.2 i hi).1, gi_0 (c.2.2.2.2.2.2.2.2.2 i hi).2⟩⟩
  have h := b_rs s hs
  refine ⟨⟨gi_0 h.1, gi_m h.2⟩, fun k hk => ?_, fun k _ q => absurd (show (0 : Nat) = 1 from q) (by omega), fun _ => 0, fun i hi => absurd hi List.not_mem_nil, List.Pairwise.nil⟩
  have g := b_rs2 s hs k hk
  have g2 := b_rs3 s hs k hk
  exact ⟨gi_0 g.1, gi_0 g.2.1, gi_0 g.2.2, gi_0 g2.1, gi_0 g2.2⟩
theorem z_OK : OKD yD0 := ⟨OKW_0 OKT0, Nat.zero_le _, fun k hk => absurd hk (Nat.not_lt_zero _), yCo.rf _, fun i _ => ⟨Nat.zero_le _, Or.inl rfl⟩⟩
def syKz : syMK → Bool
  | [] => true
  | .inl q :: t => Nat.blt 0 q.1 && syKz t
  | .inr (.inl q) :: t => Nat.blt 0 q.1 && syKz t
  | .inr (.inr q) :: t => Nat.blt 0 q.1 && syKz t
theorem syK0_z {B : zM} : ∀ M : syMK, syKz M = true → syFK B M 0 = zk B 0
  | [], _ => rfl
  | .inl q :: t, h => by
    obtain ⟨h1, h2⟩ := syand h
    have h1 := Nat.blt_eq.mp h1
    show (if 0 = q.1 then q.2 else syFK B t 0) = _
    rw [if_neg (by omega)]; exact syK0_z t h2
  | .inr (.inl q) :: t, h => by
    obtain ⟨h1, h2⟩ := syand h
    have h1 := Nat.blt_eq.mp h1
    show (if 0 = q.1 then (q.2.1, q.2.2.1) else if q.1 < 0 ∧ 0 ≤ q.1 + q.2.2.1 then (20, q.2.2.2) else syFK B t 0) = _
    rw [if_neg (by omega), if_neg (by omega)]; exact syK0_z t h2
  | .inr (.inr q) :: t, h => by
    obtain ⟨h1, h2⟩ := syand h
    have h1 := Nat.blt_eq.mp h1
    show (if 0 = q.1 then (26, q.2.1) else if q.1 < 0 ∧ 0 ≤ q.1 + q.2.1 * (1 + q.2.2.1) then (if (0 - q.1 - 1) % (1 + q.2.2.1) = 0 then (25, q.2.2.1) else (20, q.2.2.2)) else syFK B t 0) = _
    rw [if_neg (by omega), if_neg (by omega)]; exact syK0_z t h2
theorem syA_zi (B : zM) (xs : Nat → Int32) (M : syM) (a j : Nat) : zi (syA B xs M) a j = syFI B xs M.1 a j := rfl
theorem syA_zk (B : zM) (xs : Nat → Int32) (M : syM) (a : Nat) : zk (syA B xs M) a = syFK B M.2.2.1 a := rfl
theorem symM_I : symM.1 = symI := rfl
theorem symM_K : symM.2.2.1 = symK := rfl
theorem z_sc1 (L : Nat) (xs : Nat → Int32) (j : Nat) : zi (zB0 L xs) 0 j = xs j := by
  have lo : syFI (zM0 L xs) xs symI 0 j = zi (zM0 L xs) 0 j := syLo_ok (B := zM0 L xs) (xs := xs) (a := 0) (by omega) j symI (by decide +kernel)
  show zi (syA (zM0 L xs) xs symM) 0 j = xs j
  rw [syA_zi, symM_I, lo]
  show (if (0 : Nat) = 0 then xs j else if (0 : Nat) = 1 then zUn j else if (0 : Nat) = 2 then zAo j else 0) = xs j
  exact if_pos rfl
theorem z_sc2 (L : Nat) (xs : Nat → Int32) : zk (zB0 L xs) 0 = (30, L) := by
  have lo : syFK (zM0 L xs) symK 0 = zk (zM0 L xs) 0 := syK0_z (B := zM0 L xs) symK (by decide +kernel)
  show zk (syA (zM0 L xs) xs symM) 0 = (30, L)
  rw [syA_zk, symM_K, lo]
  show (if (0 : Nat) = 0 then ((30, L) : Nat × Nat) else if (0 : Nat) = 1 ∨ (0 : Nat) = 2 then (30, 6) else if (0 : Nat) < 16 then (98, 0) else (99, 0)) = (30, L)
  exact if_pos rfl
/-! ===== class and reference side by side ===== -/
theorem SC_k {M M' : zM} (h : SC M) (hi : ∀ a k, a < 136 → zi M' a k = zi M a k) (hr : zr M' = zr M) (hk : ∀ a, a < 327 → zk M' a = zk M a) : SC M' := by
  have r : ∀ a f, zr M' a f = zr M a f := fun a f => by rw [hr]
  obtain ⟨⟨d1, d2, d3, d4, d5, d6, d7, d8, d9, da, db, dc, dd⟩, ⟨r1, r2, r3⟩, p, j1, j2, w1, w2, u1, u2, s1, s2, o, t1, t2, t3, t4⟩ := h
  have J : ∀ j L, j < 300 → SJo M j L → SJo M' j L := fun j L hj q => ⟨(hk _ (by omega)).trans q.1, fun f hf => ⟨(r _ _).trans (q.2 f hf).1, (hk _ (by omega)).trans (q.2 f hf).2⟩⟩
  have W : ∀ w u j, w < 300 → u < 300 → SWo M w u j → SWo M' w u j := fun w u j hw hu q => ⟨(hk _ (by omega)).trans q.1, (r _ _).trans q.2.1, (r _ _).trans q.2.2.1, (r _ _).trans q.2.2.2.1, (r _ _).trans q.2.2.2.2.1, (hk _ (by omega)).trans q.2.2.2.2.2.1, fun s hs => (r _ _).trans (q.2.2.2.2.2.2 s hs)⟩
  have U : ∀ u, u < 300 → SPu M u → SPu M' u := fun u hu q => ⟨(hk _ (by omega)).trans q.1, (r _ _).trans q.2.1, (hk _ (by omega)).trans q.2.2⟩
  have G : ∀ a, a < 300 → SSg M a → SSg M' a := fun a ha q => ⟨(hk _ (by omega)).trans q.1, (r _ _).trans q.2.1, fun f hf => (r _ _).trans (q.2.2.1 f hf), fun f hf => (hk _ (by omega)).trans (q.2.2.2 f hf)⟩
  exact ⟨⟨(hk _ (by omega)).trans d1, (r _ _).trans d2, (r _ _).trans d3, (hk _ (by omega)).trans d4, fun i hi => (r _ _).trans (d5 i hi), (r _ _).trans d6, (r _ _).trans d7, (r _ _).trans d8, (r _ _).trans d9, (hk _ (by omega)).trans da, fun i hi => (r _ _).trans (db i hi), (r _ _).trans dc, (hk _ (by omega)).trans dd⟩,
    ⟨(hk _ (by omega)).trans r1, (r _ _).trans r2, (hk _ (by omega)).trans r3⟩, fun i hi6 => ⟨(hk _ (by omega)).trans (p i hi6).1, fun f hf => ⟨(r _ _).trans ((p i hi6).2 f hf).1, (hk _ (by omega)).trans ((p i hi6).2 f hf).2⟩⟩, J _ _ (by omega) j1, J _ _ (by omega) j2, W _ _ _ (by omega) (by omega) w1, W _ _ _ (by omega) (by omega) w2, U _ (by omega) u1, U _ (by omega) u2, fun s hs => G _ (by omega) (s1 s hs), fun s hs => G _ (by omega) (s2 s hs),
    fun i hi4 => ⟨(hk _ (by omega)).trans (o i hi4).1, (r _ _).trans (o i hi4).2.1, (hk _ (by omega)).trans (o i hi4).2.2⟩, (hk _ (by omega)).trans t1, (hk _ (by omega)).trans t2, fun j => (hi _ _ (by omega)).trans (t3 j), fun j => (hi _ _ (by omega)).trans (t4 j)⟩
/-- what the reference's calls leave of the class -/
theorem RC.fg {M M' : zM} {D : yD} (h : RC M D) (g : FG2 M M') : RC M' D := by
  have hS' : SC M' := SC_k h.1.1 g.1 g.2.1 g.2.2.2.1
  have hS0 : SC (M'.1, M'.2.1, M.2.2) := SC_k (M' := (M'.1, M'.2.1, M.2.2)) h.1.1 g.1 g.2.1 (fun _ _ => rfl)
  have f : Fr FY M (M'.1, M'.2.1, M.2.2) := ⟨fun a k q => ⟨g.1 a k (by unfold FY at q; omega), congrFun (congrFun g.2.1 a) k⟩, rfl, rfl, rfl, rfl⟩
  obtain ⟨⟨h1, h2, h3, h4, h5⟩, h6, h7, h8⟩ := h.fr (M' := (M'.1, M'.2.1, M.2.2)) hS0 f ⟨fun k q => by unfold FY at q; omega, fun q => by unfold FY at q; omega, fun a k a1 a2 q => by unfold FY at q; omega, fun a k a1 a2 q => by unfold FY at q; omega⟩
  exact ⟨⟨hS', h2, h3, h4, h5⟩, h6, h7, h8⟩
theorem RX.fF {M M' : zM} {D : yD} {κ : Nat} (h : RX M D κ) (f : Fi (fun b _ => 15 < b ∧ b < 136) M M') : RX M' D κ := by
  obtain ⟨⟨h1, h2, h3, h4, h5, h6, h7, h8⟩, a2, a3, ⟨a4, a5, a6⟩, a7⟩ := h
  have b21 : zi M' 136 21 = -1 := (f.1 _ _ (by omega)).trans a2
  exact ⟨⟨SX_fi h1 f, XTx_fi h2 h3.1.1 f (fun b k b1 b2 q => by omega), h3, XPu_fi h4 f (fun b k q1 q2 => by unfold GP at q1; omega), fun s hs => (h5 s hs).fi f (fun b k q1 q2 => by unfold GS at q1; omega), (f.1 _ _ (by omega)).trans h6, h7.fi f (fun b k q => by unfold GL at q; omega), ⟨none, b21, fun s hs h0 k hk => rfl⟩⟩, b21, (f.1 _ _ (by omega)).trans a3, ⟨a4, (f.1 _ _ (by omega)).trans a5, fun k hk => (f.1 _ _ (by omega)).trans (a6 k hk)⟩, fun i hi => ⟨(f.1 _ _ (by omega)).trans (a7 i hi).1, (f.1 _ _ (by omega)).trans (a7 i hi).2⟩⟩
/-- what the class's calls leave of the reference -/
theorem RX.fcl {M M' : zM} {D : yD} {κ : Nat} (h : RX M D κ) (f : Fc M M') : RX M' D κ := by
  have g : RX (M'.1, M.2) D κ := h.fF (M' := (M'.1, M.2)) ⟨fun a k q => (f.1 a k (by omega)).1, rfl, rfl, rfl, rfl, rfl⟩
  have hX : SX M' := SX_of h.1.1 (fun a _ => congrFun f.2.1 a) (fun a g h1 h2 => (f.1 a g (Or.inr h1)).2)
  obtain ⟨⟨a1, a2, a3, a4, a5, a6, a7, a8⟩, b2, b3, b4, b5⟩ := g
  exact ⟨⟨hX, a2, a3, a4, a5, a6, a7, a8⟩, b2, b3, b4, b5⟩
/-- at the head of the law's loop, i calls being done -/
def LI (xs : Nat → Int32) (L : Nat) (M : zM) (D : yD) (κ i : Nat) : Prop := RC M D ∧ RX M D κ ∧ OKD D ∧ κ ≤ 240 * i ∧ (327 ≤ zn M ∧ zn M ≤ 327 + i ∧ zs M ≤ 13301 + 12 * i) ∧ (∀ j, zi M 0 j = xs j) ∧ zk M 0 = (30, L)
/-- behind the class's call -/
def LC (xs : Nat → Int32) (L : Nat) (M : zM) (D D' : yD) (κ i : Nat) : Prop := RC M D' ∧ RX M D κ ∧ OKD D ∧ κ ≤ 240 * i ∧ (327 ≤ zn M ∧ zn M ≤ 327 + i ∧ zs M ≤ 13301 + 12 * i) ∧ (∀ j, zi M 0 j = xs j) ∧ zk M 0 = (30, L)
theorem LI.c {xs : Nat → Int32} {L κ i : Nat} {M M' : zM} {D D' : yD} (h : LI xs L M D κ i) (hR : RC M' D') (f : Fc M M') : LC xs L M' D D' κ i := by
  obtain ⟨h1, h2, h3, h4, ⟨h5, h6, h7⟩, h8, h9⟩ := h
  exact ⟨hR, h2.fcl f, h3, h4, ⟨by rw [f.2.2.1]; exact h5, by rw [f.2.2.1]; exact h6, by rw [f.2.2.2]; exact h7⟩, fun j => (f.1 0 j (Or.inl (by omega))).1.trans (h8 j), (congrFun f.2.1 0).trans h9⟩
theorem LC.x {xs : Nat → Int32} {L κ κ' i : Nat} {M M' : zM} {D D' : yD} (h : LC xs L M D D' κ i) (hX : RX M' D' κ') (hk : κ' ≤ κ + 240) (hD : OKD D') (g : FG2 M M') : LI xs L M' D' κ' (i + 1) := by
  obtain ⟨h1, h2, h3, h4, ⟨h5, h6, h7⟩, h8, h9⟩ := h
  obtain ⟨g1, g2, g3, g4, g5, g6, g7⟩ := g
  exact ⟨h1.fg ⟨g1, g2, g3, g4, g5, g6, g7⟩, hX, hD, by omega, ⟨by omega, by omega, by omega⟩, fun j => (g1 0 j (by omega)).trans (h8 j), (g4 0 (by omega)).trans h9⟩
theorem LC.y {xs : Nat → Int32} {L κ κ' i : Nat} {M M' : zM} {D D' : yD} (h : LC xs L M D D' κ i) (hX : RX M' D' κ') (hk : κ' ≤ κ + 240) (hD : OKD D') (f : Fi FY M M') : LI xs L M' D' κ' (i + 1) := h.x hX hk hD (FG2.fy f)
theorem LC.b {xs : Nat → Int32} {L κ i : Nat} {M : zM} {D D' : yD} (h : LC xs L M D D' κ i) (e : dn D' = dn D) (e2 : db D' = db D) : ∀ k, k < dn D → db D k < 256 := fun k hk => by
  have := (h.1.2.2.1.2.2 k (by rw [e]; exact hk)).2
  rw [e2] at this; exact this
theorem LI.b {xs : Nat → Int32} {L κ i : Nat} {M : zM} {D : yD} (h : LI xs L M D κ i) : ∀ k, k < dn D → db D k < 256 := fun k hk => (h.1.2.2.1.2.2 k hk).2
/-- which call -/
theorem nI_bk (x : Int32) : nI x.toUInt32.toNat = x := by
  apply Int32.toBitVec_inj.mp
  show BitVec.ofNat 32 x.toBitVec.toNat = x.toBitVec
  simp
theorem and31 (x : Int32) : ∃ m, m < 32 ∧ x &&& nI 31 = nI m := by
  refine ⟨x.toUInt32.toNat &&& 31, ?_, ?_⟩
  · have := Nat.and_le_right (n := x.toUInt32.toNat) (m := 31)
    omega
  · rw [← n_and, nI_bk]
