/-! EACH STEP of the constructors that makes an object or sets a reference (printed by genctor.py) -/
section NW
variable {L : Nat}
theorem nw_2 (L : Nat) : ((TZ L 2 0).1 ++ [.inl 11], zr0 (TZ L 2 0).2 2) = TZ L 3 0 := TZ_nw L (by decide) rfl (by decide +kernel)
theorem nw_3 (L : Nat) : ((TZ L 3 0).1 ++ [.inl 7], zr0 (TZ L 3 0).2 3) = TZ L 4 0 := TZ_nw L (by decide) rfl (by decide +kernel)
theorem nw_4 (L : Nat) : ((TZ L 4 0).1 ++ [.inr (.int, 401)], zr0 (TZ L 4 0).2 4) = TZ L 5 0 := TZ_nw L (by decide) rfl (by decide +kernel)
theorem nw_5 (L : Nat) : ((TZ L 5 1).1 ++ [.inr (.int, 401)], zr0 (TZ L 5 1).2 5) = TZ L 6 1 := TZ_nw L (by decide) rfl (by decide +kernel)
theorem nw_6 (L : Nat) : ((TZ L 6 2).1 ++ [.inr (.long, 401)], zr0 (TZ L 6 2).2 6) = TZ L 7 2 := TZ_nw L (by decide) rfl (by decide +kernel)
theorem nw_7 (L : Nat) : ((TZ L 7 3).1 ++ [.inr (.byte, 2000)], zr0 (TZ L 7 3).2 7) = TZ L 8 3 := TZ_nw L (by decide) rfl (by decide +kernel)
theorem nw_8 (L : Nat) : ((TZ L 8 4).1 ++ [.inr (.long, 33)], zr0 (TZ L 8 4).2 8) = TZ L 9 4 := TZ_nw L (by decide) rfl (by decide +kernel)
theorem nw_9 (L : Nat) : ((TZ L 9 5).1 ++ [.inl 2], zr0 (TZ L 9 5).2 9) = TZ L 10 5 := TZ_nw L (by decide) rfl (by decide +kernel)
theorem nw_10 (L : Nat) : ((TZ L 10 5).1 ++ [.inr (.int, 13)], zr0 (TZ L 10 5).2 10) = TZ L 11 5 := TZ_nw L (by decide) rfl (by decide +kernel)
theorem nw_11 (L : Nat) : ((TZ L 11 6).1 ++ [.inr (.int, 32)], zr0 (TZ L 11 6).2 11) = TZ L 12 6 := TZ_nw L (by decide) rfl (by decide +kernel)
theorem nw_12 (L : Nat) : ((TZ L 12 7).1 ++ [.inl 9], zr0 (TZ L 12 7).2 12) = TZ L 13 7 := TZ_nw L (by decide) rfl (by decide +kernel)
theorem nw_13 (L : Nat) : ((TZ L 13 7).1 ++ [.inr (.int, 9)], zr0 (TZ L 13 7).2 13) = TZ L 14 7 := TZ_nw L (by decide) rfl (by decide +kernel)
theorem nw_14 (L : Nat) : ((TZ L 14 8).1 ++ [.inr (.int, 6)], zr0 (TZ L 14 8).2 14) = TZ L 15 8 := TZ_nw L (by decide) rfl (by decide +kernel)
theorem nw_15 (L : Nat) : ((TZ L 15 9).1 ++ [.inr (.int, 6)], zr0 (TZ L 15 9).2 15) = TZ L 16 9 := TZ_nw L (by decide) rfl (by decide +kernel)
theorem nw_16 (L : Nat) : ((TZ L 16 10).1 ++ [.inr (.long, 6)], zr0 (TZ L 16 10).2 16) = TZ L 17 10 := TZ_nw L (by decide) rfl (by decide +kernel)
theorem nw_17 (L : Nat) : ((TZ L 17 11).1 ++ [.inr (.int, 400)], zr0 (TZ L 17 11).2 17) = TZ L 18 11 := TZ_nw L (by decide) rfl (by decide +kernel)
theorem nw_18 (L : Nat) : ((TZ L 18 12).1 ++ [.inr (.int, 4)], zr0 (TZ L 18 12).2 18) = TZ L 19 12 := TZ_nw L (by decide) rfl (by decide +kernel)
theorem nw_19 (L : Nat) : ((TZ L 19 13).1 ++ [.inr (.int, 4)], zr0 (TZ L 19 13).2 19) = TZ L 20 13 := TZ_nw L (by decide) rfl (by decide +kernel)
theorem nw_20 (L : Nat) : ((TZ L 20 14).1 ++ [.inr (.int, 18)], zr0 (TZ L 20 14).2 20) = TZ L 21 14 := TZ_nw L (by decide) rfl (by decide +kernel)
theorem nw_21 (L : Nat) : ((TZ L 21 15).1 ++ [.inr (.int, 18)], zr0 (TZ L 21 15).2 21) = TZ L 22 15 := TZ_nw L (by decide) rfl (by decide +kernel)
theorem nw_22 (L : Nat) : ((TZ L 22 16).1 ++ [.inr (.int, 3)], zr0 (TZ L 22 16).2 22) = TZ L 23 16 := TZ_nw L (by decide) rfl (by decide +kernel)
theorem nw_23 (L : Nat) : ((TZ L 23 17).1 ++ [.inr (.int, 36)], zr0 (TZ L 23 17).2 23) = TZ L 24 17 := TZ_nw L (by decide) rfl (by decide +kernel)
theorem nw_24 (L : Nat) : ((TZ L 24 18).1 ++ [.inr (.int, 36)], zr0 (TZ L 24 18).2 24) = TZ L 25 18 := TZ_nw L (by decide) rfl (by decide +kernel)
theorem nw_25 (L : Nat) : ((TZ L 25 19).1 ++ [.inr (.int, 36)], zr0 (TZ L 25 19).2 25) = TZ L 26 19 := TZ_nw L (by decide) rfl (by decide +kernel)
theorem nw_26 (L : Nat) : ((TZ L 26 20).1 ++ [.inl 9], zr0 (TZ L 26 20).2 26) = TZ L 27 20 := TZ_nw L (by decide) rfl (by decide +kernel)
theorem nw_27 (L : Nat) : ((TZ L 27 20).1 ++ [.inr (.int, 9)], zr0 (TZ L 27 20).2 27) = TZ L 28 20 := TZ_nw L (by decide) rfl (by decide +kernel)
theorem nw_28 (L : Nat) : ((TZ L 28 21).1 ++ [.inr (.int, 6)], zr0 (TZ L 28 21).2 28) = TZ L 29 21 := TZ_nw L (by decide) rfl (by decide +kernel)
theorem nw_29 (L : Nat) : ((TZ L 29 22).1 ++ [.inr (.int, 6)], zr0 (TZ L 29 22).2 29) = TZ L 30 22 := TZ_nw L (by decide) rfl (by decide +kernel)
theorem nw_30 (L : Nat) : ((TZ L 30 23).1 ++ [.inr (.long, 6)], zr0 (TZ L 30 23).2 30) = TZ L 31 23 := TZ_nw L (by decide) rfl (by decide +kernel)
theorem nw_31 (L : Nat) : ((TZ L 31 24).1 ++ [.inr (.int, 400)], zr0 (TZ L 31 24).2 31) = TZ L 32 24 := TZ_nw L (by decide) rfl (by decide +kernel)
theorem nw_32 (L : Nat) : ((TZ L 32 25).1 ++ [.inr (.int, 4)], zr0 (TZ L 32 25).2 32) = TZ L 33 25 := TZ_nw L (by decide) rfl (by decide +kernel)
theorem nw_33 (L : Nat) : ((TZ L 33 26).1 ++ [.inr (.int, 4)], zr0 (TZ L 33 26).2 33) = TZ L 34 26 := TZ_nw L (by decide) rfl (by decide +kernel)
theorem nw_34 (L : Nat) : ((TZ L 34 27).1 ++ [.inr (.int, 18)], zr0 (TZ L 34 27).2 34) = TZ L 35 27 := TZ_nw L (by decide) rfl (by decide +kernel)
theorem nw_35 (L : Nat) : ((TZ L 35 28).1 ++ [.inr (.int, 18)], zr0 (TZ L 35 28).2 35) = TZ L 36 28 := TZ_nw L (by decide) rfl (by decide +kernel)
theorem nw_36 (L : Nat) : ((TZ L 36 29).1 ++ [.inr (.int, 3)], zr0 (TZ L 36 29).2 36) = TZ L 37 29 := TZ_nw L (by decide) rfl (by decide +kernel)
theorem nw_37 (L : Nat) : ((TZ L 37 30).1 ++ [.inr (.int, 36)], zr0 (TZ L 37 30).2 37) = TZ L 38 30 := TZ_nw L (by decide) rfl (by decide +kernel)
theorem nw_38 (L : Nat) : ((TZ L 38 31).1 ++ [.inr (.int, 36)], zr0 (TZ L 38 31).2 38) = TZ L 39 31 := TZ_nw L (by decide) rfl (by decide +kernel)
theorem nw_39 (L : Nat) : ((TZ L 39 32).1 ++ [.inr (.int, 36)], zr0 (TZ L 39 32).2 39) = TZ L 40 32 := TZ_nw L (by decide) rfl (by decide +kernel)
theorem nw_40 (L : Nat) : ((TZ L 40 33).1 ++ [.inl 1], zr0 (TZ L 40 33).2 40) = TZ L 41 33 := TZ_nw L (by decide) rfl (by decide +kernel)
theorem nw_41 (L : Nat) : ((TZ L 41 33).1 ++ [.inr (.int, 36)], zr0 (TZ L 41 33).2 41) = TZ L 42 33 := TZ_nw L (by decide) rfl (by decide +kernel)
theorem nw_42 (L : Nat) : ((TZ L 42 34).1 ++ [.inr (.int, 36)], zr0 (TZ L 42 34).2 42) = TZ L 43 34 := TZ_nw L (by decide) rfl (by decide +kernel)
theorem nw_43 (L : Nat) : ((TZ L 43 35).1 ++ [.inr (.int, 36)], zr0 (TZ L 43 35).2 43) = TZ L 44 35 := TZ_nw L (by decide) rfl (by decide +kernel)
theorem nw_44 (L : Nat) : ((TZ L 44 36).1 ++ [.inr (.int, 36)], zr0 (TZ L 44 36).2 44) = TZ L 45 36 := TZ_nw L (by decide) rfl (by decide +kernel)
theorem nw_45 (L : Nat) : ((TZ L 45 37).1 ++ [.inr (.int, 36)], zr0 (TZ L 45 37).2 45) = TZ L 46 37 := TZ_nw L (by decide) rfl (by decide +kernel)
theorem nw_46 (L : Nat) : ((TZ L 46 40).1 ++ [.inl 6], zr0 (TZ L 46 40).2 46) = TZ L 47 40 := TZ_nw L (by decide) rfl (by decide +kernel)
theorem nw_47 (L : Nat) : ((TZ L 47 40).1 ++ [.inl 5], zr0 (TZ L 47 40).2 47) = TZ L 48 40 := TZ_nw L (by decide) rfl (by decide +kernel)
theorem nw_48 (L : Nat) : ((TZ L 48 40).1 ++ (.inr (.array .int, 5) :: List.replicate 5 (.inr (.int, 36))), fun b j => if 48 ≤ b then (if b = 48 ∧ j < 5 then some (b + 1 + j) else none) else (TZ L 48 40).2 b j) = TZ L 54 45 := TZ_mna L (by decide) (by decide) rfl rfl rfl rfl rfl rfl (by decide +kernel) rfl rfl rfl rfl rfl
theorem nw_54 (L : Nat) : ((TZ L 54 47).1 ++ [.inr (.int, 480)], zr0 (TZ L 54 47).2 54) = TZ L 55 47 := TZ_nw L (by decide) rfl (by decide +kernel)
theorem nw_55 (L : Nat) : ((TZ L 55 48).1 ++ [.inr (.int, 8)], zr0 (TZ L 55 48).2 55) = TZ L 56 48 := TZ_nw L (by decide) rfl (by decide +kernel)
theorem nw_56 (L : Nat) : ((TZ L 56 49).1 ++ [.inr (.int, 8)], zr0 (TZ L 56 49).2 56) = TZ L 57 49 := TZ_nw L (by decide) rfl (by decide +kernel)
theorem nw_57 (L : Nat) : ((TZ L 57 50).1 ++ [.inr (.int, 4)], zr0 (TZ L 57 50).2 57) = TZ L 58 50 := TZ_nw L (by decide) rfl (by decide +kernel)
theorem nw_58 (L : Nat) : ((TZ L 58 51).1 ++ [.inr (.int, 4)], zr0 (TZ L 58 51).2 58) = TZ L 59 51 := TZ_nw L (by decide) rfl (by decide +kernel)
theorem nw_59 (L : Nat) : ((TZ L 59 52).1 ++ [.inr (.int, 4)], zr0 (TZ L 59 52).2 59) = TZ L 60 52 := TZ_nw L (by decide) rfl (by decide +kernel)
theorem nw_60 (L : Nat) : ((TZ L 60 54).1 ++ [.inl 4], zr0 (TZ L 60 54).2 60) = TZ L 61 54 := TZ_nw L (by decide) rfl (by decide +kernel)
theorem nw_61 (L : Nat) : ((TZ L 61 60).1 ++ [.inr (.object "GaleRoof$Scene", 3)], zr0 (TZ L 61 60).2 61) = TZ L 62 60 := TZ_nw L (by decide) rfl (by decide +kernel)
theorem nw_62 (L : Nat) : ((TZ L 62 61).1 ++ [.inl 6], zr0 (TZ L 62 61).2 62) = TZ L 63 61 := TZ_nw L (by decide) rfl (by decide +kernel)
theorem nw_63 (L : Nat) : ((TZ L 63 61).1 ++ [.inl 5], zr0 (TZ L 63 61).2 63) = TZ L 64 61 := TZ_nw L (by decide) rfl (by decide +kernel)
theorem nw_64 (L : Nat) : ((TZ L 64 61).1 ++ (.inr (.array .int, 5) :: List.replicate 5 (.inr (.int, 36))), fun b j => if 64 ≤ b then (if b = 64 ∧ j < 5 then some (b + 1 + j) else none) else (TZ L 64 61).2 b j) = TZ L 70 66 := TZ_mna L (by decide) (by decide) rfl rfl rfl rfl rfl rfl (by decide +kernel) rfl rfl rfl rfl rfl
theorem nw_70 (L : Nat) : ((TZ L 70 68).1 ++ [.inr (.int, 480)], zr0 (TZ L 70 68).2 70) = TZ L 71 68 := TZ_nw L (by decide) rfl (by decide +kernel)
theorem nw_71 (L : Nat) : ((TZ L 71 69).1 ++ [.inr (.int, 8)], zr0 (TZ L 71 69).2 71) = TZ L 72 69 := TZ_nw L (by decide) rfl (by decide +kernel)
theorem nw_72 (L : Nat) : ((TZ L 72 70).1 ++ [.inr (.int, 8)], zr0 (TZ L 72 70).2 72) = TZ L 73 70 := TZ_nw L (by decide) rfl (by decide +kernel)
theorem nw_73 (L : Nat) : ((TZ L 73 71).1 ++ [.inr (.int, 4)], zr0 (TZ L 73 71).2 73) = TZ L 74 71 := TZ_nw L (by decide) rfl (by decide +kernel)
theorem nw_74 (L : Nat) : ((TZ L 74 72).1 ++ [.inr (.int, 4)], zr0 (TZ L 74 72).2 74) = TZ L 75 72 := TZ_nw L (by decide) rfl (by decide +kernel)
theorem nw_75 (L : Nat) : ((TZ L 75 73).1 ++ [.inr (.int, 4)], zr0 (TZ L 75 73).2 75) = TZ L 76 73 := TZ_nw L (by decide) rfl (by decide +kernel)
theorem nw_76 (L : Nat) : ((TZ L 76 75).1 ++ [.inl 6], zr0 (TZ L 76 75).2 76) = TZ L 77 75 := TZ_nw L (by decide) rfl (by decide +kernel)
theorem nw_77 (L : Nat) : ((TZ L 77 75).1 ++ [.inl 5], zr0 (TZ L 77 75).2 77) = TZ L 78 75 := TZ_nw L (by decide) rfl (by decide +kernel)
theorem nw_78 (L : Nat) : ((TZ L 78 75).1 ++ (.inr (.array .int, 5) :: List.replicate 5 (.inr (.int, 36))), fun b j => if 78 ≤ b then (if b = 78 ∧ j < 5 then some (b + 1 + j) else none) else (TZ L 78 75).2 b j) = TZ L 84 80 := TZ_mna L (by decide) (by decide) rfl rfl rfl rfl rfl rfl (by decide +kernel) rfl rfl rfl rfl rfl
theorem nw_84 (L : Nat) : ((TZ L 84 82).1 ++ [.inr (.int, 480)], zr0 (TZ L 84 82).2 84) = TZ L 85 82 := TZ_nw L (by decide) rfl (by decide +kernel)
theorem nw_85 (L : Nat) : ((TZ L 85 83).1 ++ [.inr (.int, 8)], zr0 (TZ L 85 83).2 85) = TZ L 86 83 := TZ_nw L (by decide) rfl (by decide +kernel)
theorem nw_86 (L : Nat) : ((TZ L 86 84).1 ++ [.inr (.int, 8)], zr0 (TZ L 86 84).2 86) = TZ L 87 84 := TZ_nw L (by decide) rfl (by decide +kernel)
theorem nw_87 (L : Nat) : ((TZ L 87 85).1 ++ [.inr (.int, 4)], zr0 (TZ L 87 85).2 87) = TZ L 88 85 := TZ_nw L (by decide) rfl (by decide +kernel)
theorem nw_88 (L : Nat) : ((TZ L 88 86).1 ++ [.inr (.int, 4)], zr0 (TZ L 88 86).2 88) = TZ L 89 86 := TZ_nw L (by decide) rfl (by decide +kernel)
theorem nw_89 (L : Nat) : ((TZ L 89 87).1 ++ [.inr (.int, 4)], zr0 (TZ L 89 87).2 89) = TZ L 90 87 := TZ_nw L (by decide) rfl (by decide +kernel)
theorem nw_90 (L : Nat) : ((TZ L 90 89).1 ++ [.inl 6], zr0 (TZ L 90 89).2 90) = TZ L 91 89 := TZ_nw L (by decide) rfl (by decide +kernel)
theorem nw_91 (L : Nat) : ((TZ L 91 89).1 ++ [.inl 5], zr0 (TZ L 91 89).2 91) = TZ L 92 89 := TZ_nw L (by decide) rfl (by decide +kernel)
theorem nw_92 (L : Nat) : ((TZ L 92 89).1 ++ (.inr (.array .int, 5) :: List.replicate 5 (.inr (.int, 36))), fun b j => if 92 ≤ b then (if b = 92 ∧ j < 5 then some (b + 1 + j) else none) else (TZ L 92 89).2 b j) = TZ L 98 94 := TZ_mna L (by decide) (by decide) rfl rfl rfl rfl rfl rfl (by decide +kernel) rfl rfl rfl rfl rfl
theorem nw_98 (L : Nat) : ((TZ L 98 96).1 ++ [.inr (.int, 480)], zr0 (TZ L 98 96).2 98) = TZ L 99 96 := TZ_nw L (by decide) rfl (by decide +kernel)
theorem nw_99 (L : Nat) : ((TZ L 99 97).1 ++ [.inr (.int, 8)], zr0 (TZ L 99 97).2 99) = TZ L 100 97 := TZ_nw L (by decide) rfl (by decide +kernel)
theorem nw_100 (L : Nat) : ((TZ L 100 98).1 ++ [.inr (.int, 8)], zr0 (TZ L 100 98).2 100) = TZ L 101 98 := TZ_nw L (by decide) rfl (by decide +kernel)
theorem nw_101 (L : Nat) : ((TZ L 101 99).1 ++ [.inr (.int, 4)], zr0 (TZ L 101 99).2 101) = TZ L 102 99 := TZ_nw L (by decide) rfl (by decide +kernel)
theorem nw_102 (L : Nat) : ((TZ L 102 100).1 ++ [.inr (.int, 4)], zr0 (TZ L 102 100).2 102) = TZ L 103 100 := TZ_nw L (by decide) rfl (by decide +kernel)
theorem nw_103 (L : Nat) : ((TZ L 103 101).1 ++ [.inr (.int, 4)], zr0 (TZ L 103 101).2 103) = TZ L 104 101 := TZ_nw L (by decide) rfl (by decide +kernel)
theorem nw_104 (L : Nat) : ((TZ L 104 103).1 ++ [.inl 3], zr0 (TZ L 104 103).2 104) = TZ L 105 103 := TZ_nw L (by decide) rfl (by decide +kernel)
theorem nw_105 (L : Nat) : ((TZ L 105 103).1 ++ [.inr (.int, 2)], zr0 (TZ L 105 103).2 105) = TZ L 106 103 := TZ_nw L (by decide) rfl (by decide +kernel)
theorem nw_106 (L : Nat) : ((TZ L 106 104).1 ++ [.inr (.int, 12)], zr0 (TZ L 106 104).2 106) = TZ L 107 104 := TZ_nw L (by decide) rfl (by decide +kernel)
theorem nw_107 (L : Nat) : ((TZ L 107 105).1 ++ [.inl 5], zr0 (TZ L 107 105).2 107) = TZ L 108 105 := TZ_nw L (by decide) rfl (by decide +kernel)
theorem nw_108 (L : Nat) : ((TZ L 108 105).1 ++ (.inr (.array .int, 5) :: List.replicate 5 (.inr (.int, 36))), fun b j => if 108 ≤ b then (if b = 108 ∧ j < 5 then some (b + 1 + j) else none) else (TZ L 108 105).2 b j) = TZ L 114 110 := TZ_mna L (by decide) (by decide) rfl rfl rfl rfl rfl rfl (by decide +kernel) rfl rfl rfl rfl rfl
theorem nw_114 (L : Nat) : ((TZ L 114 115).1 ++ [.inl 0], zr0 (TZ L 114 115).2 114) = TZ L 115 115 := TZ_nw L (by decide) rfl (by decide +kernel)
theorem nw_115 (L : Nat) : ((TZ L 115 115).1 ++ [.inl 5], zr0 (TZ L 115 115).2 115) = TZ L 116 115 := TZ_nw L (by decide) rfl (by decide +kernel)
theorem nw_116 (L : Nat) : ((TZ L 116 115).1 ++ (.inr (.array .int, 5) :: List.replicate 5 (.inr (.int, 36))), fun b j => if 116 ≤ b then (if b = 116 ∧ j < 5 then some (b + 1 + j) else none) else (TZ L 116 115).2 b j) = TZ L 122 120 := TZ_mna L (by decide) (by decide) rfl rfl rfl rfl rfl rfl (by decide +kernel) rfl rfl rfl rfl rfl
theorem nw_122 (L : Nat) : ((TZ L 122 125).1 ++ [.inl 8], zr0 (TZ L 122 125).2 122) = TZ L 123 125 := TZ_nw L (by decide) rfl (by decide +kernel)
theorem nw_123 (L : Nat) : ((TZ L 123 125).1 ++ [.inl 5], zr0 (TZ L 123 125).2 123) = TZ L 124 125 := TZ_nw L (by decide) rfl (by decide +kernel)
theorem nw_124 (L : Nat) : ((TZ L 124 125).1 ++ (.inr (.array .int, 5) :: List.replicate 5 (.inr (.int, 36))), fun b j => if 124 ≤ b then (if b = 124 ∧ j < 5 then some (b + 1 + j) else none) else (TZ L 124 125).2 b j) = TZ L 130 130 := TZ_mna L (by decide) (by decide) rfl rfl rfl rfl rfl rfl (by decide +kernel) rfl rfl rfl rfl rfl
theorem nw_130 (L : Nat) : ((TZ L 130 132).1 ++ [.inr (.int, 480)], zr0 (TZ L 130 132).2 130) = TZ L 131 132 := TZ_nw L (by decide) rfl (by decide +kernel)
theorem nw_131 (L : Nat) : ((TZ L 131 136).1 ++ [.inl 10], zr0 (TZ L 131 136).2 131) = TZ L 132 136 := TZ_nw L (by decide) rfl (by decide +kernel)
theorem nw_132 (L : Nat) : ((TZ L 132 136).1 ++ [.inr (.int, 60)], zr0 (TZ L 132 136).2 132) = TZ L 133 136 := TZ_nw L (by decide) rfl (by decide +kernel)
theorem nw_133 (L : Nat) : ((TZ L 133 137).1 ++ [.inr (.int, 60)], zr0 (TZ L 133 137).2 133) = TZ L 134 137 := TZ_nw L (by decide) rfl (by decide +kernel)
theorem nw_134 (L : Nat) : ((TZ L 134 138).1 ++ [.inr (.int, 60)], zr0 (TZ L 134 138).2 134) = TZ L 135 138 := TZ_nw L (by decide) rfl (by decide +kernel)
theorem nw_135 (L : Nat) : ((TZ L 135 139).1 ++ [.inr (.int, 60)], zr0 (TZ L 135 139).2 135) = TZ L 136 139 := TZ_nw L (by decide) rfl (by decide +kernel)
theorem nw_136 (L : Nat) : ((TZ L 136 140).1 ++ [.inr (.int, 60)], zr0 (TZ L 136 140).2 136) = TZ L 137 140 := TZ_nw L (by decide) rfl (by decide +kernel)
theorem nw_137 (L : Nat) : ((TZ L 137 141).1 ++ [.inr (.int, 60)], zr0 (TZ L 137 141).2 137) = TZ L 138 141 := TZ_nw L (by decide) rfl (by decide +kernel)
theorem nw_138 (L : Nat) : ((TZ L 138 146).1 ++ [.inl 12], zr0 (TZ L 138 146).2 138) = TZ L 139 146 := TZ_nw L (by decide) rfl (by decide +kernel)
theorem nw_139 (L : Nat) : ((TZ L 139 146).1 ++ [.inr (.byte, 2000)], zr0 (TZ L 139 146).2 139) = TZ L 140 146 := TZ_nw L (by decide) rfl (by decide +kernel)
theorem nw_140 (L : Nat) : ((TZ L 140 147).1 ++ [.inr (.byte, 2000)], zr0 (TZ L 140 147).2 140) = TZ L 141 147 := TZ_nw L (by decide) rfl (by decide +kernel)
theorem nw_141 (L : Nat) : ((TZ L 141 148).1 ++ [.inr (.int, 403)], zr0 (TZ L 141 148).2 141) = TZ L 142 148 := TZ_nw L (by decide) rfl (by decide +kernel)
theorem nw_142 (L : Nat) : ((TZ L 142 149).1 ++ [.inr (.int, 403)], zr0 (TZ L 142 149).2 142) = TZ L 143 149 := TZ_nw L (by decide) rfl (by decide +kernel)
theorem nw_143 (L : Nat) : ((TZ L 143 150).1 ++ [.inr (.int, 403)], zr0 (TZ L 143 150).2 143) = TZ L 144 150 := TZ_nw L (by decide) rfl (by decide +kernel)
theorem nw_144 (L : Nat) : ((TZ L 144 151).1 ++ [.inr (.long, 403)], zr0 (TZ L 144 151).2 144) = TZ L 145 151 := TZ_nw L (by decide) rfl (by decide +kernel)
theorem nw_145 (L : Nat) : ((TZ L 145 152).1 ++ [.inr (.long, 33)], zr0 (TZ L 145 152).2 145) = TZ L 146 152 := TZ_nw L (by decide) rfl (by decide +kernel)
theorem nw_146 (L : Nat) : ((TZ L 146 153).1 ++ [.inr (.long, 6)], zr0 (TZ L 146 153).2 146) = TZ L 147 153 := TZ_nw L (by decide) rfl (by decide +kernel)
theorem nw_147 (L : Nat) : ((TZ L 147 154).1 ++ [.inr (.int, 2)], zr0 (TZ L 147 154).2 147) = TZ L 148 154 := TZ_nw L (by decide) rfl (by decide +kernel)
theorem nw_148 (L : Nat) : ((TZ L 148 155).1 ++ [.inr (.int, 2)], zr0 (TZ L 148 155).2 148) = TZ L 149 155 := TZ_nw L (by decide) rfl (by decide +kernel)
theorem nw_149 (L : Nat) : ((TZ L 149 156).1 ++ [.inr (.int, 2)], zr0 (TZ L 149 156).2 149) = TZ L 150 156 := TZ_nw L (by decide) rfl (by decide +kernel)
theorem nw_150 (L : Nat) : ((TZ L 150 157).1 ++ [.inr (.int, 12)], zr0 (TZ L 150 157).2 150) = TZ L 151 157 := TZ_nw L (by decide) rfl (by decide +kernel)
theorem nw_151 (L : Nat) : ((TZ L 151 158).1 ++ [.inr (.int, 6)], zr0 (TZ L 151 158).2 151) = TZ L 152 158 := TZ_nw L (by decide) rfl (by decide +kernel)
theorem nw_152 (L : Nat) : ((TZ L 152 159).1 ++ [.inr (.int, 36)], zr0 (TZ L 152 159).2 152) = TZ L 153 159 := TZ_nw L (by decide) rfl (by decide +kernel)
theorem nw_153 (L : Nat) : ((TZ L 153 160).1 ++ [.inr (.int, 36)], zr0 (TZ L 153 160).2 153) = TZ L 154 160 := TZ_nw L (by decide) rfl (by decide +kernel)
theorem nw_154 (L : Nat) : ((TZ L 154 161).1 ++ [.inr (.boolean, 8)], zr0 (TZ L 154 161).2 154) = TZ L 155 161 := TZ_nw L (by decide) rfl (by decide +kernel)
theorem nw_155 (L : Nat) : ((TZ L 155 162).1 ++ [.inr (.int, 8)], zr0 (TZ L 155 162).2 155) = TZ L 156 162 := TZ_nw L (by decide) rfl (by decide +kernel)
theorem nw_156 (L : Nat) : ((TZ L 156 163).1 ++ [.inr (.int, 8)], zr0 (TZ L 156 163).2 156) = TZ L 157 163 := TZ_nw L (by decide) rfl (by decide +kernel)
theorem nw_157 (L : Nat) : ((TZ L 157 164).1 ++ [.inr (.int, 2)], zr0 (TZ L 157 164).2 157) = TZ L 158 164 := TZ_nw L (by decide) rfl (by decide +kernel)
theorem nw_158 (L : Nat) : ((TZ L 158 165).1 ++ [.inr (.int, 12)], zr0 (TZ L 158 165).2 158) = TZ L 159 165 := TZ_nw L (by decide) rfl (by decide +kernel)
theorem nw_159 (L : Nat) : ((TZ L 159 166).1 ++ [.inr (.int, 12)], zr0 (TZ L 159 166).2 159) = TZ L 160 166 := TZ_nw L (by decide) rfl (by decide +kernel)
theorem nw_160 (L : Nat) : ((TZ L 160 167).1 ++ [.inr (.boolean, 12)], zr0 (TZ L 160 167).2 160) = TZ L 161 167 := TZ_nw L (by decide) rfl (by decide +kernel)
theorem nw_161 (L : Nat) : ((TZ L 161 168).1 ++ [.inr (.int, 300)], zr0 (TZ L 161 168).2 161) = TZ L 162 168 := TZ_nw L (by decide) rfl (by decide +kernel)
theorem nw_162 (L : Nat) : ((TZ L 162 169).1 ++ [.inr (.boolean, 300)], zr0 (TZ L 162 169).2 162) = TZ L 163 169 := TZ_nw L (by decide) rfl (by decide +kernel)
theorem nw_163 (L : Nat) : ((TZ L 163 170).1 ++ [.inr (.boolean, 300)], zr0 (TZ L 163 170).2 163) = TZ L 164 170 := TZ_nw L (by decide) rfl (by decide +kernel)
theorem nw_164 (L : Nat) : ((TZ L 164 171).1 ++ [.inr (.int, 300)], zr0 (TZ L 164 171).2 164) = TZ L 165 171 := TZ_nw L (by decide) rfl (by decide +kernel)
theorem nw_165 (L : Nat) : ((TZ L 165 172).1 ++ [.inr (.int, 300)], zr0 (TZ L 165 172).2 165) = TZ L 166 172 := TZ_nw L (by decide) rfl (by decide +kernel)
theorem nw_166 (L : Nat) : ((TZ L 166 173).1 ++ [.inr (.int, 300)], zr0 (TZ L 166 173).2 166) = TZ L 167 173 := TZ_nw L (by decide) rfl (by decide +kernel)
theorem nw_167 (L : Nat) : ((TZ L 167 174).1 ++ [.inr (.int, 840)], zr0 (TZ L 167 174).2 167) = TZ L 168 174 := TZ_nw L (by decide) rfl (by decide +kernel)
theorem nw_168 (L : Nat) : ((TZ L 168 175).1 ++ [.inr (.int, 840)], zr0 (TZ L 168 175).2 168) = TZ L 169 175 := TZ_nw L (by decide) rfl (by decide +kernel)
theorem nw_169 (L : Nat) : ((TZ L 169 176).1 ++ [.inr (.int, 64)], zr0 (TZ L 169 176).2 169) = TZ L 170 176 := TZ_nw L (by decide) rfl (by decide +kernel)
theorem nw_170 (L : Nat) : ((TZ L 170 177).1 ++ [.inr (.int, 13)], zr0 (TZ L 170 177).2 170) = TZ L 171 177 := TZ_nw L (by decide) rfl (by decide +kernel)
theorem nw_171 (L : Nat) : ((TZ L 171 178).1 ++ [.inr (.int, 400)], zr0 (TZ L 171 178).2 171) = TZ L 172 178 := TZ_nw L (by decide) rfl (by decide +kernel)
theorem nw_172 (L : Nat) : ((TZ L 172 179).1 ++ [.inr (.boolean, 36)], zr0 (TZ L 172 179).2 172) = TZ L 173 179 := TZ_nw L (by decide) rfl (by decide +kernel)
theorem nw_173 (L : Nat) : ((TZ L 173 180).1 ++ [.inr (.boolean, 36)], zr0 (TZ L 173 180).2 173) = TZ L 174 180 := TZ_nw L (by decide) rfl (by decide +kernel)
theorem nw_174 (L : Nat) : ((TZ L 174 181).1 ++ [.inr (.boolean, 36)], zr0 (TZ L 174 181).2 174) = TZ L 175 181 := TZ_nw L (by decide) rfl (by decide +kernel)
theorem nw_175 (L : Nat) : ((TZ L 175 182).1 ++ [.inr (.int, 36)], zr0 (TZ L 175 182).2 175) = TZ L 176 182 := TZ_nw L (by decide) rfl (by decide +kernel)
theorem nw_176 (L : Nat) : ((TZ L 176 183).1 ++ [.inr (.int, 36)], zr0 (TZ L 176 183).2 176) = TZ L 177 183 := TZ_nw L (by decide) rfl (by decide +kernel)
theorem nw_177 (L : Nat) : ((TZ L 177 184).1 ++ [.inr (.boolean, 6)], zr0 (TZ L 177 184).2 177) = TZ L 178 184 := TZ_nw L (by decide) rfl (by decide +kernel)
theorem nw_178 (L : Nat) : ((TZ L 178 185).1 ++ [.inr (.int, 480)], zr0 (TZ L 178 185).2 178) = TZ L 179 185 := TZ_nw L (by decide) rfl (by decide +kernel)
theorem nw_179 (L : Nat) : ((TZ L 179 186).1 ++ [.inr (.int, 8)], zr0 (TZ L 179 186).2 179) = TZ L 180 186 := TZ_nw L (by decide) rfl (by decide +kernel)
theorem nw_180 (L : Nat) : ((TZ L 180 187).1 ++ [.inr (.int, 8)], zr0 (TZ L 180 187).2 180) = TZ L 181 187 := TZ_nw L (by decide) rfl (by decide +kernel)
theorem nw_181 (L : Nat) : ((TZ L 181 188).1 ++ [.inr (.int, 4)], zr0 (TZ L 181 188).2 181) = TZ L 182 188 := TZ_nw L (by decide) rfl (by decide +kernel)
theorem nw_182 (L : Nat) : ((TZ L 182 189).1 ++ [.inr (.int, 4)], zr0 (TZ L 182 189).2 182) = TZ L 183 189 := TZ_nw L (by decide) rfl (by decide +kernel)
theorem nw_183 (L : Nat) : ((TZ L 183 190).1 ++ [.inr (.int, 4)], zr0 (TZ L 183 190).2 183) = TZ L 184 190 := TZ_nw L (by decide) rfl (by decide +kernel)
theorem nw_184 (L : Nat) : ((TZ L 184 191).1 ++ [.inr (.boolean, 36)], zr0 (TZ L 184 191).2 184) = TZ L 185 191 := TZ_nw L (by decide) rfl (by decide +kernel)
theorem nw_185 (L : Nat) : ((TZ L 185 192).1 ++ [.inr (.int, 36)], zr0 (TZ L 185 192).2 185) = TZ L 186 192 := TZ_nw L (by decide) rfl (by decide +kernel)
theorem nw_186 (L : Nat) : ((TZ L 186 193).1 ++ [.inr (.int, 36)], zr0 (TZ L 186 193).2 186) = TZ L 187 193 := TZ_nw L (by decide) rfl (by decide +kernel)
theorem nw_187 (L : Nat) : ((TZ L 187 194).1 ++ [.inr (.int, 480)], zr0 (TZ L 187 194).2 187) = TZ L 188 194 := TZ_nw L (by decide) rfl (by decide +kernel)
theorem nw_188 (L : Nat) : ((TZ L 188 195).1 ++ [.inr (.int, 36)], zr0 (TZ L 188 195).2 188) = TZ L 189 195 := TZ_nw L (by decide) rfl (by decide +kernel)
theorem nw_189 (L : Nat) : ((TZ L 189 196).1 ++ [.inr (.int, 12)], zr0 (TZ L 189 196).2 189) = TZ L 190 196 := TZ_nw L (by decide) rfl (by decide +kernel)
theorem nw_190 (L : Nat) : ((TZ L 190 197).1 ++ [.inr (.int, 36)], zr0 (TZ L 190 197).2 190) = TZ L 191 197 := TZ_nw L (by decide) rfl (by decide +kernel)
theorem nw_191 (L : Nat) : ((TZ L 191 198).1 ++ [.inr (.boolean, 36)], zr0 (TZ L 191 198).2 191) = TZ L 192 198 := TZ_nw L (by decide) rfl (by decide +kernel)
theorem nw_192 (L : Nat) : ((TZ L 192 199).1 ++ [.inr (.int, 36)], zr0 (TZ L 192 199).2 192) = TZ L 193 199 := TZ_nw L (by decide) rfl (by decide +kernel)
theorem nw_193 (L : Nat) : ((TZ L 193 200).1 ++ [.inr (.int, 60)], zr0 (TZ L 193 200).2 193) = TZ L 194 200 := TZ_nw L (by decide) rfl (by decide +kernel)
theorem nw_194 (L : Nat) : ((TZ L 194 201).1 ++ [.inr (.int, 60)], zr0 (TZ L 194 201).2 194) = TZ L 195 201 := TZ_nw L (by decide) rfl (by decide +kernel)
theorem nw_195 (L : Nat) : ((TZ L 195 202).1 ++ [.inr (.int, 60)], zr0 (TZ L 195 202).2 195) = TZ L 196 202 := TZ_nw L (by decide) rfl (by decide +kernel)
theorem nw_196 (L : Nat) : ((TZ L 196 203).1 ++ [.inr (.int, 60)], zr0 (TZ L 196 203).2 196) = TZ L 197 203 := TZ_nw L (by decide) rfl (by decide +kernel)
theorem nw_197 (L : Nat) : ((TZ L 197 204).1 ++ [.inr (.int, 60)], zr0 (TZ L 197 204).2 197) = TZ L 198 204 := TZ_nw L (by decide) rfl (by decide +kernel)
theorem nw_198 (L : Nat) : ((TZ L 198 205).1 ++ [.inr (.boolean, 3)], zr0 (TZ L 198 205).2 198) = TZ L 199 205 := TZ_nw L (by decide) rfl (by decide +kernel)
theorem nw_199 (L : Nat) : ((TZ L 199 206).1 ++ [.inr (.boolean, 108)], zr0 (TZ L 199 206).2 199) = TZ L 200 206 := TZ_nw L (by decide) rfl (by decide +kernel)
theorem nw_200 (L : Nat) : ((TZ L 200 207).1 ++ [.inr (.boolean, 108)], zr0 (TZ L 200 207).2 200) = TZ L 201 207 := TZ_nw L (by decide) rfl (by decide +kernel)
theorem nw_201 (L : Nat) : ((TZ L 201 208).1 ++ [.inr (.boolean, 108)], zr0 (TZ L 201 208).2 201) = TZ L 202 208 := TZ_nw L (by decide) rfl (by decide +kernel)
theorem nw_202 (L : Nat) : ((TZ L 202 209).1 ++ [.inr (.int, 108)], zr0 (TZ L 202 209).2 202) = TZ L 203 209 := TZ_nw L (by decide) rfl (by decide +kernel)
theorem nw_203 (L : Nat) : ((TZ L 203 210).1 ++ [.inr (.int, 108)], zr0 (TZ L 203 210).2 203) = TZ L 204 210 := TZ_nw L (by decide) rfl (by decide +kernel)
theorem nw_204 (L : Nat) : ((TZ L 204 211).1 ++ [.inr (.boolean, 18)], zr0 (TZ L 204 211).2 204) = TZ L 205 211 := TZ_nw L (by decide) rfl (by decide +kernel)
theorem nw_205 (L : Nat) : ((TZ L 205 212).1 ++ [.inr (.boolean, 3)], zr0 (TZ L 205 212).2 205) = TZ L 206 212 := TZ_nw L (by decide) rfl (by decide +kernel)
theorem nw_206 (L : Nat) : ((TZ L 206 213).1 ++ [.inr (.int, 1440)], zr0 (TZ L 206 213).2 206) = TZ L 207 213 := TZ_nw L (by decide) rfl (by decide +kernel)
theorem nw_207 (L : Nat) : ((TZ L 207 214).1 ++ [.inr (.int, 3)], zr0 (TZ L 207 214).2 207) = TZ L 208 214 := TZ_nw L (by decide) rfl (by decide +kernel)
theorem nw_208 (L : Nat) : ((TZ L 208 215).1 ++ [.inr (.int, 24)], zr0 (TZ L 208 215).2 208) = TZ L 209 215 := TZ_nw L (by decide) rfl (by decide +kernel)
theorem nw_209 (L : Nat) : ((TZ L 209 216).1 ++ [.inr (.int, 24)], zr0 (TZ L 209 216).2 209) = TZ L 210 216 := TZ_nw L (by decide) rfl (by decide +kernel)
theorem nw_210 (L : Nat) : ((TZ L 210 217).1 ++ [.inr (.int, 3)], zr0 (TZ L 210 217).2 210) = TZ L 211 217 := TZ_nw L (by decide) rfl (by decide +kernel)
theorem nw_211 (L : Nat) : ((TZ L 211 218).1 ++ [.inr (.int, 12)], zr0 (TZ L 211 218).2 211) = TZ L 212 218 := TZ_nw L (by decide) rfl (by decide +kernel)
theorem nw_212 (L : Nat) : ((TZ L 212 219).1 ++ [.inr (.int, 12)], zr0 (TZ L 212 219).2 212) = TZ L 213 219 := TZ_nw L (by decide) rfl (by decide +kernel)
theorem nw_213 (L : Nat) : ((TZ L 213 220).1 ++ [.inr (.int, 12)], zr0 (TZ L 213 220).2 213) = TZ L 214 220 := TZ_nw L (by decide) rfl (by decide +kernel)
theorem rf_0 (L : Nat) : ((TZ L 5 0).1, ur (TZ L 5 0).2 3 0 (some 4)) = TZ L 5 1 := TZ_ur L 5 rfl
theorem rf_1 (L : Nat) : ((TZ L 6 1).1, ur (TZ L 6 1).2 3 1 (some 5)) = TZ L 6 2 := TZ_ur L 6 rfl
theorem rf_2 (L : Nat) : ((TZ L 7 2).1, ur (TZ L 7 2).2 3 2 (some 6)) = TZ L 7 3 := TZ_ur L 7 rfl
theorem rf_3 (L : Nat) : ((TZ L 8 3).1, ur (TZ L 8 3).2 3 4 (some 7)) = TZ L 8 4 := TZ_ur L 8 rfl
theorem rf_4 (L : Nat) : ((TZ L 9 4).1, ur (TZ L 9 4).2 3 5 (some 8)) = TZ L 9 5 := TZ_ur L 9 rfl
theorem rf_5 (L : Nat) : ((TZ L 11 5).1, ur (TZ L 11 5).2 9 0 (some 10)) = TZ L 11 6 := TZ_ur L 11 rfl
theorem rf_6 (L : Nat) : ((TZ L 12 6).1, ur (TZ L 12 6).2 9 1 (some 11)) = TZ L 12 7 := TZ_ur L 12 rfl
theorem rf_7 (L : Nat) : ((TZ L 14 7).1, ur (TZ L 14 7).2 12 0 (some 13)) = TZ L 14 8 := TZ_ur L 14 rfl
theorem rf_8 (L : Nat) : ((TZ L 15 8).1, ur (TZ L 15 8).2 12 1 (some 14)) = TZ L 15 9 := TZ_ur L 15 rfl
theorem rf_9 (L : Nat) : ((TZ L 16 9).1, ur (TZ L 16 9).2 12 2 (some 15)) = TZ L 16 10 := TZ_ur L 16 rfl
theorem rf_10 (L : Nat) : ((TZ L 17 10).1, ur (TZ L 17 10).2 12 3 (some 16)) = TZ L 17 11 := TZ_ur L 17 rfl
theorem rf_11 (L : Nat) : ((TZ L 18 11).1, ur (TZ L 18 11).2 12 4 (some 17)) = TZ L 18 12 := TZ_ur L 18 rfl
theorem rf_12 (L : Nat) : ((TZ L 19 12).1, ur (TZ L 19 12).2 12 5 (some 18)) = TZ L 19 13 := TZ_ur L 19 rfl
theorem rf_13 (L : Nat) : ((TZ L 20 13).1, ur (TZ L 20 13).2 12 6 (some 19)) = TZ L 20 14 := TZ_ur L 20 rfl
theorem rf_14 (L : Nat) : ((TZ L 21 14).1, ur (TZ L 21 14).2 12 7 (some 20)) = TZ L 21 15 := TZ_ur L 21 rfl
theorem rf_15 (L : Nat) : ((TZ L 22 15).1, ur (TZ L 22 15).2 12 8 (some 21)) = TZ L 22 16 := TZ_ur L 22 rfl
theorem rf_16 (L : Nat) : ((TZ L 23 16).1, ur (TZ L 23 16).2 12 9 (some 22)) = TZ L 23 17 := TZ_ur L 23 rfl
theorem rf_17 (L : Nat) : ((TZ L 24 17).1, ur (TZ L 24 17).2 12 10 (some 23)) = TZ L 24 18 := TZ_ur L 24 rfl
theorem rf_18 (L : Nat) : ((TZ L 25 18).1, ur (TZ L 25 18).2 12 11 (some 24)) = TZ L 25 19 := TZ_ur L 25 rfl
theorem rf_19 (L : Nat) : ((TZ L 26 19).1, ur (TZ L 26 19).2 12 12 (some 25)) = TZ L 26 20 := TZ_ur L 26 rfl
theorem rf_20 (L : Nat) : ((TZ L 28 20).1, ur (TZ L 28 20).2 26 0 (some 27)) = TZ L 28 21 := TZ_ur L 28 rfl
theorem rf_21 (L : Nat) : ((TZ L 29 21).1, ur (TZ L 29 21).2 26 1 (some 28)) = TZ L 29 22 := TZ_ur L 29 rfl
theorem rf_22 (L : Nat) : ((TZ L 30 22).1, ur (TZ L 30 22).2 26 2 (some 29)) = TZ L 30 23 := TZ_ur L 30 rfl
theorem rf_23 (L : Nat) : ((TZ L 31 23).1, ur (TZ L 31 23).2 26 3 (some 30)) = TZ L 31 24 := TZ_ur L 31 rfl
theorem rf_24 (L : Nat) : ((TZ L 32 24).1, ur (TZ L 32 24).2 26 4 (some 31)) = TZ L 32 25 := TZ_ur L 32 rfl
theorem rf_25 (L : Nat) : ((TZ L 33 25).1, ur (TZ L 33 25).2 26 5 (some 32)) = TZ L 33 26 := TZ_ur L 33 rfl
theorem rf_26 (L : Nat) : ((TZ L 34 26).1, ur (TZ L 34 26).2 26 6 (some 33)) = TZ L 34 27 := TZ_ur L 34 rfl
theorem rf_27 (L : Nat) : ((TZ L 35 27).1, ur (TZ L 35 27).2 26 7 (some 34)) = TZ L 35 28 := TZ_ur L 35 rfl
theorem rf_28 (L : Nat) : ((TZ L 36 28).1, ur (TZ L 36 28).2 26 8 (some 35)) = TZ L 36 29 := TZ_ur L 36 rfl
theorem rf_29 (L : Nat) : ((TZ L 37 29).1, ur (TZ L 37 29).2 26 9 (some 36)) = TZ L 37 30 := TZ_ur L 37 rfl
theorem rf_30 (L : Nat) : ((TZ L 38 30).1, ur (TZ L 38 30).2 26 10 (some 37)) = TZ L 38 31 := TZ_ur L 38 rfl
theorem rf_31 (L : Nat) : ((TZ L 39 31).1, ur (TZ L 39 31).2 26 11 (some 38)) = TZ L 39 32 := TZ_ur L 39 rfl
theorem rf_32 (L : Nat) : ((TZ L 40 32).1, ur (TZ L 40 32).2 26 12 (some 39)) = TZ L 40 33 := TZ_ur L 40 rfl
theorem rf_33 (L : Nat) : ((TZ L 42 33).1, ur (TZ L 42 33).2 40 0 (some 41)) = TZ L 42 34 := TZ_ur L 42 rfl
theorem rf_34 (L : Nat) : ((TZ L 43 34).1, ur (TZ L 43 34).2 40 1 (some 42)) = TZ L 43 35 := TZ_ur L 43 rfl
theorem rf_35 (L : Nat) : ((TZ L 44 35).1, ur (TZ L 44 35).2 40 2 (some 43)) = TZ L 44 36 := TZ_ur L 44 rfl
theorem rf_36 (L : Nat) : ((TZ L 45 36).1, ur (TZ L 45 36).2 40 10 (some 44)) = TZ L 45 37 := TZ_ur L 45 rfl
theorem rf_37 (L : Nat) : ((TZ L 46 37).1, ur (TZ L 46 37).2 40 11 (some 45)) = TZ L 46 38 := TZ_ur L 46 rfl
theorem rf_38 (L : Nat) : ((TZ L 46 38).1, ur (TZ L 46 38).2 40 9 (some 9)) = TZ L 46 39 := TZ_ur L 46 rfl
theorem rf_39 (L : Nat) : ((TZ L 46 39).1, ur (TZ L 46 39).2 40 8 (some 12)) = TZ L 46 40 := TZ_ur L 46 rfl
theorem rf_45 (L : Nat) : ((TZ L 54 45).1, ur (TZ L 54 45).2 47 0 (some 48)) = TZ L 54 46 := TZ_ur L 54 rfl
theorem rf_46 (L : Nat) : ((TZ L 54 46).1, ur (TZ L 54 46).2 46 0 (some 47)) = TZ L 54 47 := TZ_ur L 54 rfl
theorem rf_47 (L : Nat) : ((TZ L 55 47).1, ur (TZ L 55 47).2 46 1 (some 54)) = TZ L 55 48 := TZ_ur L 55 rfl
theorem rf_48 (L : Nat) : ((TZ L 56 48).1, ur (TZ L 56 48).2 46 2 (some 55)) = TZ L 56 49 := TZ_ur L 56 rfl
theorem rf_49 (L : Nat) : ((TZ L 57 49).1, ur (TZ L 57 49).2 46 3 (some 56)) = TZ L 57 50 := TZ_ur L 57 rfl
theorem rf_50 (L : Nat) : ((TZ L 58 50).1, ur (TZ L 58 50).2 46 4 (some 57)) = TZ L 58 51 := TZ_ur L 58 rfl
theorem rf_51 (L : Nat) : ((TZ L 59 51).1, ur (TZ L 59 51).2 46 5 (some 58)) = TZ L 59 52 := TZ_ur L 59 rfl
theorem rf_52 (L : Nat) : ((TZ L 60 52).1, ur (TZ L 60 52).2 46 6 (some 59)) = TZ L 60 53 := TZ_ur L 60 rfl
theorem rf_53 (L : Nat) : ((TZ L 60 53).1, ur (TZ L 60 53).2 2 0 (some 3)) = TZ L 60 54 := TZ_ur L 60 rfl
theorem rf_54 (L : Nat) : ((TZ L 61 54).1, ur (TZ L 61 54).2 60 1 (some 3)) = TZ L 61 55 := TZ_ur L 61 rfl
theorem rf_55 (L : Nat) : ((TZ L 61 55).1, ur (TZ L 61 55).2 60 2 (some 26)) = TZ L 61 56 := TZ_ur L 61 rfl
theorem rf_56 (L : Nat) : ((TZ L 61 56).1, ur (TZ L 61 56).2 2 1 (some 60)) = TZ L 61 57 := TZ_ur L 61 rfl
theorem rf_57 (L : Nat) : ((TZ L 61 57).1, ur (TZ L 61 57).2 2 2 (some 9)) = TZ L 61 58 := TZ_ur L 61 rfl
theorem rf_58 (L : Nat) : ((TZ L 61 58).1, ur (TZ L 61 58).2 2 3 (some 40)) = TZ L 61 59 := TZ_ur L 61 rfl
theorem rf_59 (L : Nat) : ((TZ L 61 59).1, ur (TZ L 61 59).2 2 4 (some 46)) = TZ L 61 60 := TZ_ur L 61 rfl
theorem rf_60 (L : Nat) : ((TZ L 62 60).1, ur (TZ L 62 60).2 2 5 (some 61)) = TZ L 62 61 := TZ_ur L 62 rfl
theorem rf_66 (L : Nat) : ((TZ L 70 66).1, ur (TZ L 70 66).2 63 0 (some 64)) = TZ L 70 67 := TZ_ur L 70 rfl
theorem rf_67 (L : Nat) : ((TZ L 70 67).1, ur (TZ L 70 67).2 62 0 (some 63)) = TZ L 70 68 := TZ_ur L 70 rfl
theorem rf_68 (L : Nat) : ((TZ L 71 68).1, ur (TZ L 71 68).2 62 1 (some 70)) = TZ L 71 69 := TZ_ur L 71 rfl
theorem rf_69 (L : Nat) : ((TZ L 72 69).1, ur (TZ L 72 69).2 62 2 (some 71)) = TZ L 72 70 := TZ_ur L 72 rfl
theorem rf_70 (L : Nat) : ((TZ L 73 70).1, ur (TZ L 73 70).2 62 3 (some 72)) = TZ L 73 71 := TZ_ur L 73 rfl
theorem rf_71 (L : Nat) : ((TZ L 74 71).1, ur (TZ L 74 71).2 62 4 (some 73)) = TZ L 74 72 := TZ_ur L 74 rfl
theorem rf_72 (L : Nat) : ((TZ L 75 72).1, ur (TZ L 75 72).2 62 5 (some 74)) = TZ L 75 73 := TZ_ur L 75 rfl
theorem rf_73 (L : Nat) : ((TZ L 76 73).1, ur (TZ L 76 73).2 62 6 (some 75)) = TZ L 76 74 := TZ_ur L 76 rfl
theorem rf_74 (L : Nat) : ((TZ L 76 74).1, ur (TZ L 76 74).2 61 0 (some 62)) = TZ L 76 75 := TZ_ur L 76 rfl
theorem rf_80 (L : Nat) : ((TZ L 84 80).1, ur (TZ L 84 80).2 77 0 (some 78)) = TZ L 84 81 := TZ_ur L 84 rfl
theorem rf_81 (L : Nat) : ((TZ L 84 81).1, ur (TZ L 84 81).2 76 0 (some 77)) = TZ L 84 82 := TZ_ur L 84 rfl
theorem rf_82 (L : Nat) : ((TZ L 85 82).1, ur (TZ L 85 82).2 76 1 (some 84)) = TZ L 85 83 := TZ_ur L 85 rfl
theorem rf_83 (L : Nat) : ((TZ L 86 83).1, ur (TZ L 86 83).2 76 2 (some 85)) = TZ L 86 84 := TZ_ur L 86 rfl
theorem rf_84 (L : Nat) : ((TZ L 87 84).1, ur (TZ L 87 84).2 76 3 (some 86)) = TZ L 87 85 := TZ_ur L 87 rfl
theorem rf_85 (L : Nat) : ((TZ L 88 85).1, ur (TZ L 88 85).2 76 4 (some 87)) = TZ L 88 86 := TZ_ur L 88 rfl
theorem rf_86 (L : Nat) : ((TZ L 89 86).1, ur (TZ L 89 86).2 76 5 (some 88)) = TZ L 89 87 := TZ_ur L 89 rfl
theorem rf_87 (L : Nat) : ((TZ L 90 87).1, ur (TZ L 90 87).2 76 6 (some 89)) = TZ L 90 88 := TZ_ur L 90 rfl
theorem rf_88 (L : Nat) : ((TZ L 90 88).1, ur (TZ L 90 88).2 61 1 (some 76)) = TZ L 90 89 := TZ_ur L 90 rfl
theorem rf_94 (L : Nat) : ((TZ L 98 94).1, ur (TZ L 98 94).2 91 0 (some 92)) = TZ L 98 95 := TZ_ur L 98 rfl
theorem rf_95 (L : Nat) : ((TZ L 98 95).1, ur (TZ L 98 95).2 90 0 (some 91)) = TZ L 98 96 := TZ_ur L 98 rfl
theorem rf_96 (L : Nat) : ((TZ L 99 96).1, ur (TZ L 99 96).2 90 1 (some 98)) = TZ L 99 97 := TZ_ur L 99 rfl
theorem rf_97 (L : Nat) : ((TZ L 100 97).1, ur (TZ L 100 97).2 90 2 (some 99)) = TZ L 100 98 := TZ_ur L 100 rfl
theorem rf_98 (L : Nat) : ((TZ L 101 98).1, ur (TZ L 101 98).2 90 3 (some 100)) = TZ L 101 99 := TZ_ur L 101 rfl
theorem rf_99 (L : Nat) : ((TZ L 102 99).1, ur (TZ L 102 99).2 90 4 (some 101)) = TZ L 102 100 := TZ_ur L 102 rfl
theorem rf_100 (L : Nat) : ((TZ L 103 100).1, ur (TZ L 103 100).2 90 5 (some 102)) = TZ L 103 101 := TZ_ur L 103 rfl
theorem rf_101 (L : Nat) : ((TZ L 104 101).1, ur (TZ L 104 101).2 90 6 (some 103)) = TZ L 104 102 := TZ_ur L 104 rfl
theorem rf_102 (L : Nat) : ((TZ L 104 102).1, ur (TZ L 104 102).2 61 2 (some 90)) = TZ L 104 103 := TZ_ur L 104 rfl
theorem rf_103 (L : Nat) : ((TZ L 106 103).1, ur (TZ L 106 103).2 104 0 (some 105)) = TZ L 106 104 := TZ_ur L 106 rfl
theorem rf_104 (L : Nat) : ((TZ L 107 104).1, ur (TZ L 107 104).2 104 1 (some 106)) = TZ L 107 105 := TZ_ur L 107 rfl
theorem rf_110 (L : Nat) : ((TZ L 114 110).1, ur (TZ L 114 110).2 107 0 (some 108)) = TZ L 114 111 := TZ_ur L 114 rfl
theorem rf_111 (L : Nat) : ((TZ L 114 111).1, ur (TZ L 114 111).2 104 8 (some 107)) = TZ L 114 112 := TZ_ur L 114 rfl
theorem rf_112 (L : Nat) : ((TZ L 114 112).1, ur (TZ L 114 112).2 104 6 (some 40)) = TZ L 114 113 := TZ_ur L 114 rfl
theorem rf_113 (L : Nat) : ((TZ L 114 113).1, ur (TZ L 114 113).2 104 7 (some 46)) = TZ L 114 114 := TZ_ur L 114 rfl
theorem rf_114 (L : Nat) : ((TZ L 114 114).1, ur (TZ L 114 114).2 2 6 (some 104)) = TZ L 114 115 := TZ_ur L 114 rfl
theorem rf_120 (L : Nat) : ((TZ L 122 120).1, ur (TZ L 122 120).2 115 0 (some 116)) = TZ L 122 121 := TZ_ur L 122 rfl
theorem rf_121 (L : Nat) : ((TZ L 122 121).1, ur (TZ L 122 121).2 114 2 (some 115)) = TZ L 122 122 := TZ_ur L 122 rfl
theorem rf_122 (L : Nat) : ((TZ L 122 122).1, ur (TZ L 122 122).2 114 0 (some 40)) = TZ L 122 123 := TZ_ur L 122 rfl
theorem rf_123 (L : Nat) : ((TZ L 122 123).1, ur (TZ L 122 123).2 114 1 (some 46)) = TZ L 122 124 := TZ_ur L 122 rfl
theorem rf_124 (L : Nat) : ((TZ L 122 124).1, ur (TZ L 122 124).2 2 7 (some 114)) = TZ L 122 125 := TZ_ur L 122 rfl
theorem rf_130 (L : Nat) : ((TZ L 130 130).1, ur (TZ L 130 130).2 123 0 (some 124)) = TZ L 130 131 := TZ_ur L 130 rfl
theorem rf_131 (L : Nat) : ((TZ L 130 131).1, ur (TZ L 130 131).2 122 7 (some 123)) = TZ L 130 132 := TZ_ur L 130 rfl
theorem rf_132 (L : Nat) : ((TZ L 131 132).1, ur (TZ L 131 132).2 122 8 (some 130)) = TZ L 131 133 := TZ_ur L 131 rfl
theorem rf_133 (L : Nat) : ((TZ L 131 133).1, ur (TZ L 131 133).2 122 5 (some 40)) = TZ L 131 134 := TZ_ur L 131 rfl
theorem rf_134 (L : Nat) : ((TZ L 131 134).1, ur (TZ L 131 134).2 122 6 (some 46)) = TZ L 131 135 := TZ_ur L 131 rfl
theorem rf_135 (L : Nat) : ((TZ L 131 135).1, ur (TZ L 131 135).2 2 8 (some 122)) = TZ L 131 136 := TZ_ur L 131 rfl
theorem rf_136 (L : Nat) : ((TZ L 133 136).1, ur (TZ L 133 136).2 131 7 (some 132)) = TZ L 133 137 := TZ_ur L 133 rfl
theorem rf_137 (L : Nat) : ((TZ L 134 137).1, ur (TZ L 134 137).2 131 8 (some 133)) = TZ L 134 138 := TZ_ur L 134 rfl
theorem rf_138 (L : Nat) : ((TZ L 135 138).1, ur (TZ L 135 138).2 131 9 (some 134)) = TZ L 135 139 := TZ_ur L 135 rfl
theorem rf_139 (L : Nat) : ((TZ L 136 139).1, ur (TZ L 136 139).2 131 10 (some 135)) = TZ L 136 140 := TZ_ur L 136 rfl
theorem rf_140 (L : Nat) : ((TZ L 137 140).1, ur (TZ L 137 140).2 131 11 (some 136)) = TZ L 137 141 := TZ_ur L 137 rfl
theorem rf_141 (L : Nat) : ((TZ L 138 141).1, ur (TZ L 138 141).2 131 12 (some 137)) = TZ L 138 142 := TZ_ur L 138 rfl
theorem rf_142 (L : Nat) : ((TZ L 138 142).1, ur (TZ L 138 142).2 2 9 (some 131)) = TZ L 138 143 := TZ_ur L 138 rfl
theorem rf_143 (L : Nat) : ((TZ L 138 143).1, ur (TZ L 138 143).2 2 10 (some 12)) = TZ L 138 144 := TZ_ur L 138 rfl
theorem rf_144 (L : Nat) : ((TZ L 138 144).1, ur (TZ L 138 144).2 2 11 (some 26)) = TZ L 138 145 := TZ_ur L 138 rfl
theorem rf_145 (L : Nat) : ((TZ L 138 145).1, ur (TZ L 138 145).2 40 8 (some 12)) = TZ L 138 146 := TZ_ur L 138 rfl
theorem rf_146 (L : Nat) : ((TZ L 140 146).1, ur (TZ L 140 146).2 138 1 (some 139)) = TZ L 140 147 := TZ_ur L 140 rfl
theorem rf_147 (L : Nat) : ((TZ L 141 147).1, ur (TZ L 141 147).2 138 3 (some 140)) = TZ L 141 148 := TZ_ur L 141 rfl
theorem rf_148 (L : Nat) : ((TZ L 142 148).1, ur (TZ L 142 148).2 138 5 (some 141)) = TZ L 142 149 := TZ_ur L 142 rfl
theorem rf_149 (L : Nat) : ((TZ L 143 149).1, ur (TZ L 143 149).2 138 6 (some 142)) = TZ L 143 150 := TZ_ur L 143 rfl
theorem rf_150 (L : Nat) : ((TZ L 144 150).1, ur (TZ L 144 150).2 138 7 (some 143)) = TZ L 144 151 := TZ_ur L 144 rfl
theorem rf_151 (L : Nat) : ((TZ L 145 151).1, ur (TZ L 145 151).2 138 8 (some 144)) = TZ L 145 152 := TZ_ur L 145 rfl
theorem rf_152 (L : Nat) : ((TZ L 146 152).1, ur (TZ L 146 152).2 138 9 (some 145)) = TZ L 146 153 := TZ_ur L 146 rfl
theorem rf_153 (L : Nat) : ((TZ L 147 153).1, ur (TZ L 147 153).2 138 21 (some 146)) = TZ L 147 154 := TZ_ur L 147 rfl
theorem rf_154 (L : Nat) : ((TZ L 148 154).1, ur (TZ L 148 154).2 138 22 (some 147)) = TZ L 148 155 := TZ_ur L 148 rfl
theorem rf_155 (L : Nat) : ((TZ L 149 155).1, ur (TZ L 149 155).2 138 23 (some 148)) = TZ L 149 156 := TZ_ur L 149 rfl
theorem rf_156 (L : Nat) : ((TZ L 150 156).1, ur (TZ L 150 156).2 138 24 (some 149)) = TZ L 150 157 := TZ_ur L 150 rfl
theorem rf_157 (L : Nat) : ((TZ L 151 157).1, ur (TZ L 151 157).2 138 25 (some 150)) = TZ L 151 158 := TZ_ur L 151 rfl
theorem rf_158 (L : Nat) : ((TZ L 152 158).1, ur (TZ L 152 158).2 138 26 (some 151)) = TZ L 152 159 := TZ_ur L 152 rfl
theorem rf_159 (L : Nat) : ((TZ L 153 159).1, ur (TZ L 153 159).2 138 27 (some 152)) = TZ L 153 160 := TZ_ur L 153 rfl
theorem rf_160 (L : Nat) : ((TZ L 154 160).1, ur (TZ L 154 160).2 138 28 (some 153)) = TZ L 154 161 := TZ_ur L 154 rfl
theorem rf_161 (L : Nat) : ((TZ L 155 161).1, ur (TZ L 155 161).2 138 29 (some 154)) = TZ L 155 162 := TZ_ur L 155 rfl
theorem rf_162 (L : Nat) : ((TZ L 156 162).1, ur (TZ L 156 162).2 138 30 (some 155)) = TZ L 156 163 := TZ_ur L 156 rfl
theorem rf_163 (L : Nat) : ((TZ L 157 163).1, ur (TZ L 157 163).2 138 31 (some 156)) = TZ L 157 164 := TZ_ur L 157 rfl
theorem rf_164 (L : Nat) : ((TZ L 158 164).1, ur (TZ L 158 164).2 138 32 (some 157)) = TZ L 158 165 := TZ_ur L 158 rfl
theorem rf_165 (L : Nat) : ((TZ L 159 165).1, ur (TZ L 159 165).2 138 33 (some 158)) = TZ L 159 166 := TZ_ur L 159 rfl
theorem rf_166 (L : Nat) : ((TZ L 160 166).1, ur (TZ L 160 166).2 138 34 (some 159)) = TZ L 160 167 := TZ_ur L 160 rfl
theorem rf_167 (L : Nat) : ((TZ L 161 167).1, ur (TZ L 161 167).2 138 35 (some 160)) = TZ L 161 168 := TZ_ur L 161 rfl
theorem rf_168 (L : Nat) : ((TZ L 162 168).1, ur (TZ L 162 168).2 138 37 (some 161)) = TZ L 162 169 := TZ_ur L 162 rfl
theorem rf_169 (L : Nat) : ((TZ L 163 169).1, ur (TZ L 163 169).2 138 38 (some 162)) = TZ L 163 170 := TZ_ur L 163 rfl
theorem rf_170 (L : Nat) : ((TZ L 164 170).1, ur (TZ L 164 170).2 138 39 (some 163)) = TZ L 164 171 := TZ_ur L 164 rfl
theorem rf_171 (L : Nat) : ((TZ L 165 171).1, ur (TZ L 165 171).2 138 40 (some 164)) = TZ L 165 172 := TZ_ur L 165 rfl
theorem rf_172 (L : Nat) : ((TZ L 166 172).1, ur (TZ L 166 172).2 138 41 (some 165)) = TZ L 166 173 := TZ_ur L 166 rfl
theorem rf_173 (L : Nat) : ((TZ L 167 173).1, ur (TZ L 167 173).2 138 42 (some 166)) = TZ L 167 174 := TZ_ur L 167 rfl
theorem rf_174 (L : Nat) : ((TZ L 168 174).1, ur (TZ L 168 174).2 138 44 (some 167)) = TZ L 168 175 := TZ_ur L 168 rfl
theorem rf_175 (L : Nat) : ((TZ L 169 175).1, ur (TZ L 169 175).2 138 45 (some 168)) = TZ L 169 176 := TZ_ur L 169 rfl
theorem rf_176 (L : Nat) : ((TZ L 170 176).1, ur (TZ L 170 176).2 138 46 (some 169)) = TZ L 170 177 := TZ_ur L 170 rfl
theorem rf_177 (L : Nat) : ((TZ L 171 177).1, ur (TZ L 171 177).2 138 48 (some 170)) = TZ L 171 178 := TZ_ur L 171 rfl
theorem rf_178 (L : Nat) : ((TZ L 172 178).1, ur (TZ L 172 178).2 138 49 (some 171)) = TZ L 172 179 := TZ_ur L 172 rfl
theorem rf_179 (L : Nat) : ((TZ L 173 179).1, ur (TZ L 173 179).2 138 51 (some 172)) = TZ L 173 180 := TZ_ur L 173 rfl
theorem rf_180 (L : Nat) : ((TZ L 174 180).1, ur (TZ L 174 180).2 138 52 (some 173)) = TZ L 174 181 := TZ_ur L 174 rfl
theorem rf_181 (L : Nat) : ((TZ L 175 181).1, ur (TZ L 175 181).2 138 53 (some 174)) = TZ L 175 182 := TZ_ur L 175 rfl
theorem rf_182 (L : Nat) : ((TZ L 176 182).1, ur (TZ L 176 182).2 138 54 (some 175)) = TZ L 176 183 := TZ_ur L 176 rfl
theorem rf_183 (L : Nat) : ((TZ L 177 183).1, ur (TZ L 177 183).2 138 55 (some 176)) = TZ L 177 184 := TZ_ur L 177 rfl
theorem rf_184 (L : Nat) : ((TZ L 178 184).1, ur (TZ L 178 184).2 138 56 (some 177)) = TZ L 178 185 := TZ_ur L 178 rfl
theorem rf_185 (L : Nat) : ((TZ L 179 185).1, ur (TZ L 179 185).2 138 58 (some 178)) = TZ L 179 186 := TZ_ur L 179 rfl
theorem rf_186 (L : Nat) : ((TZ L 180 186).1, ur (TZ L 180 186).2 138 60 (some 179)) = TZ L 180 187 := TZ_ur L 180 rfl
theorem rf_187 (L : Nat) : ((TZ L 181 187).1, ur (TZ L 181 187).2 138 61 (some 180)) = TZ L 181 188 := TZ_ur L 181 rfl
theorem rf_188 (L : Nat) : ((TZ L 182 188).1, ur (TZ L 182 188).2 138 63 (some 181)) = TZ L 182 189 := TZ_ur L 182 rfl
theorem rf_189 (L : Nat) : ((TZ L 183 189).1, ur (TZ L 183 189).2 138 64 (some 182)) = TZ L 183 190 := TZ_ur L 183 rfl
theorem rf_190 (L : Nat) : ((TZ L 184 190).1, ur (TZ L 184 190).2 138 65 (some 183)) = TZ L 184 191 := TZ_ur L 184 rfl
theorem rf_191 (L : Nat) : ((TZ L 185 191).1, ur (TZ L 185 191).2 138 66 (some 184)) = TZ L 185 192 := TZ_ur L 185 rfl
theorem rf_192 (L : Nat) : ((TZ L 186 192).1, ur (TZ L 186 192).2 138 67 (some 185)) = TZ L 186 193 := TZ_ur L 186 rfl
theorem rf_193 (L : Nat) : ((TZ L 187 193).1, ur (TZ L 187 193).2 138 68 (some 186)) = TZ L 187 194 := TZ_ur L 187 rfl
theorem rf_194 (L : Nat) : ((TZ L 188 194).1, ur (TZ L 188 194).2 138 70 (some 187)) = TZ L 188 195 := TZ_ur L 188 rfl
theorem rf_195 (L : Nat) : ((TZ L 189 195).1, ur (TZ L 189 195).2 138 71 (some 188)) = TZ L 189 196 := TZ_ur L 189 rfl
theorem rf_196 (L : Nat) : ((TZ L 190 196).1, ur (TZ L 190 196).2 138 73 (some 189)) = TZ L 190 197 := TZ_ur L 190 rfl
theorem rf_197 (L : Nat) : ((TZ L 191 197).1, ur (TZ L 191 197).2 138 74 (some 190)) = TZ L 191 198 := TZ_ur L 191 rfl
theorem rf_198 (L : Nat) : ((TZ L 192 198).1, ur (TZ L 192 198).2 138 75 (some 191)) = TZ L 192 199 := TZ_ur L 192 rfl
theorem rf_199 (L : Nat) : ((TZ L 193 199).1, ur (TZ L 193 199).2 138 76 (some 192)) = TZ L 193 200 := TZ_ur L 193 rfl
theorem rf_200 (L : Nat) : ((TZ L 194 200).1, ur (TZ L 194 200).2 138 79 (some 193)) = TZ L 194 201 := TZ_ur L 194 rfl
theorem rf_201 (L : Nat) : ((TZ L 195 201).1, ur (TZ L 195 201).2 138 80 (some 194)) = TZ L 195 202 := TZ_ur L 195 rfl
theorem rf_202 (L : Nat) : ((TZ L 196 202).1, ur (TZ L 196 202).2 138 81 (some 195)) = TZ L 196 203 := TZ_ur L 196 rfl
theorem rf_203 (L : Nat) : ((TZ L 197 203).1, ur (TZ L 197 203).2 138 82 (some 196)) = TZ L 197 204 := TZ_ur L 197 rfl
theorem rf_204 (L : Nat) : ((TZ L 198 204).1, ur (TZ L 198 204).2 138 83 (some 197)) = TZ L 198 205 := TZ_ur L 198 rfl
theorem rf_205 (L : Nat) : ((TZ L 199 205).1, ur (TZ L 199 205).2 138 84 (some 198)) = TZ L 199 206 := TZ_ur L 199 rfl
theorem rf_206 (L : Nat) : ((TZ L 200 206).1, ur (TZ L 200 206).2 138 85 (some 199)) = TZ L 200 207 := TZ_ur L 200 rfl
theorem rf_207 (L : Nat) : ((TZ L 201 207).1, ur (TZ L 201 207).2 138 86 (some 200)) = TZ L 201 208 := TZ_ur L 201 rfl
theorem rf_208 (L : Nat) : ((TZ L 202 208).1, ur (TZ L 202 208).2 138 87 (some 201)) = TZ L 202 209 := TZ_ur L 202 rfl
theorem rf_209 (L : Nat) : ((TZ L 203 209).1, ur (TZ L 203 209).2 138 88 (some 202)) = TZ L 203 210 := TZ_ur L 203 rfl
theorem rf_210 (L : Nat) : ((TZ L 204 210).1, ur (TZ L 204 210).2 138 89 (some 203)) = TZ L 204 211 := TZ_ur L 204 rfl
theorem rf_211 (L : Nat) : ((TZ L 205 211).1, ur (TZ L 205 211).2 138 90 (some 204)) = TZ L 205 212 := TZ_ur L 205 rfl
theorem rf_212 (L : Nat) : ((TZ L 206 212).1, ur (TZ L 206 212).2 138 91 (some 205)) = TZ L 206 213 := TZ_ur L 206 rfl
theorem rf_213 (L : Nat) : ((TZ L 207 213).1, ur (TZ L 207 213).2 138 92 (some 206)) = TZ L 207 214 := TZ_ur L 207 rfl
theorem rf_214 (L : Nat) : ((TZ L 208 214).1, ur (TZ L 208 214).2 138 93 (some 207)) = TZ L 208 215 := TZ_ur L 208 rfl
theorem rf_215 (L : Nat) : ((TZ L 209 215).1, ur (TZ L 209 215).2 138 94 (some 208)) = TZ L 209 216 := TZ_ur L 209 rfl
theorem rf_216 (L : Nat) : ((TZ L 210 216).1, ur (TZ L 210 216).2 138 95 (some 209)) = TZ L 210 217 := TZ_ur L 210 rfl
theorem rf_217 (L : Nat) : ((TZ L 211 217).1, ur (TZ L 211 217).2 138 96 (some 210)) = TZ L 211 218 := TZ_ur L 211 rfl
theorem rf_218 (L : Nat) : ((TZ L 212 218).1, ur (TZ L 212 218).2 138 97 (some 211)) = TZ L 212 219 := TZ_ur L 212 rfl
theorem rf_219 (L : Nat) : ((TZ L 213 219).1, ur (TZ L 213 219).2 138 98 (some 212)) = TZ L 213 220 := TZ_ur L 213 rfl
theorem rf_220 (L : Nat) : ((TZ L 214 220).1, ur (TZ L 214 220).2 138 99 (some 213)) = TZ L 214 221 := TZ_ur L 214 rfl
theorem ob_2 (L k : Nat) {n : Nat} (h : 2 < n) : zob (TZ L n k) 2 11 = true := TZ_ob L k (by decide) rfl h
theorem ob_3 (L k : Nat) {n : Nat} (h : 3 < n) : zob (TZ L n k) 3 7 = true := TZ_ob L k (by decide) rfl h
theorem ob_9 (L k : Nat) {n : Nat} (h : 9 < n) : zob (TZ L n k) 9 2 = true := TZ_ob L k (by decide) rfl h
theorem ob_12 (L k : Nat) {n : Nat} (h : 12 < n) : zob (TZ L n k) 12 9 = true := TZ_ob L k (by decide) rfl h
theorem ob_26 (L k : Nat) {n : Nat} (h : 26 < n) : zob (TZ L n k) 26 9 = true := TZ_ob L k (by decide) rfl h
theorem ob_40 (L k : Nat) {n : Nat} (h : 40 < n) : zob (TZ L n k) 40 1 = true := TZ_ob L k (by decide) rfl h
theorem ob_46 (L k : Nat) {n : Nat} (h : 46 < n) : zob (TZ L n k) 46 6 = true := TZ_ob L k (by decide) rfl h
theorem ob_47 (L k : Nat) {n : Nat} (h : 47 < n) : zob (TZ L n k) 47 5 = true := TZ_ob L k (by decide) rfl h
theorem ob_60 (L k : Nat) {n : Nat} (h : 60 < n) : zob (TZ L n k) 60 4 = true := TZ_ob L k (by decide) rfl h
theorem ob_62 (L k : Nat) {n : Nat} (h : 62 < n) : zob (TZ L n k) 62 6 = true := TZ_ob L k (by decide) rfl h
theorem ob_63 (L k : Nat) {n : Nat} (h : 63 < n) : zob (TZ L n k) 63 5 = true := TZ_ob L k (by decide) rfl h
theorem ob_76 (L k : Nat) {n : Nat} (h : 76 < n) : zob (TZ L n k) 76 6 = true := TZ_ob L k (by decide) rfl h
theorem ob_77 (L k : Nat) {n : Nat} (h : 77 < n) : zob (TZ L n k) 77 5 = true := TZ_ob L k (by decide) rfl h
theorem ob_90 (L k : Nat) {n : Nat} (h : 90 < n) : zob (TZ L n k) 90 6 = true := TZ_ob L k (by decide) rfl h
theorem ob_91 (L k : Nat) {n : Nat} (h : 91 < n) : zob (TZ L n k) 91 5 = true := TZ_ob L k (by decide) rfl h
theorem ob_104 (L k : Nat) {n : Nat} (h : 104 < n) : zob (TZ L n k) 104 3 = true := TZ_ob L k (by decide) rfl h
theorem ob_107 (L k : Nat) {n : Nat} (h : 107 < n) : zob (TZ L n k) 107 5 = true := TZ_ob L k (by decide) rfl h
theorem ob_114 (L k : Nat) {n : Nat} (h : 114 < n) : zob (TZ L n k) 114 0 = true := TZ_ob L k (by decide) rfl h
theorem ob_115 (L k : Nat) {n : Nat} (h : 115 < n) : zob (TZ L n k) 115 5 = true := TZ_ob L k (by decide) rfl h
theorem ob_122 (L k : Nat) {n : Nat} (h : 122 < n) : zob (TZ L n k) 122 8 = true := TZ_ob L k (by decide) rfl h
theorem ob_123 (L k : Nat) {n : Nat} (h : 123 < n) : zob (TZ L n k) 123 5 = true := TZ_ob L k (by decide) rfl h
theorem ob_131 (L k : Nat) {n : Nat} (h : 131 < n) : zob (TZ L n k) 131 10 = true := TZ_ob L k (by decide) rfl h
theorem ob_138 (L k : Nat) {n : Nat} (h : 138 < n) : zob (TZ L n k) 138 12 = true := TZ_ob L k (by decide) rfl h
end NW
