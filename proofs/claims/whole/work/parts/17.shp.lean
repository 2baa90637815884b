/-! the cells by their numbers -/
theorem hO_0 : fd_isO 0 11 = true := rfl
theorem hR_0_0 : fd_rfc (fd_isF 0 11 0) = some 1 := rfl
theorem hR_0_1 : fd_rfc (fd_isF 0 11 1) = some 3 := rfl
theorem hR_0_2 : fd_rfc (fd_isF 0 11 2) = some 5 := rfl
theorem hR_0_3 : fd_rfc (fd_isF 0 11 3) = some 30 := rfl
theorem hR_0_4 : fd_rfc (fd_isF 0 11 4) = some 31 := rfl
theorem hR_0_5 : fd_rfc (fd_isF 0 11 5) = some 35 := rfl
theorem hR_0_6 : fd_rfc (fd_isF 0 11 6) = some 42 := rfl
theorem hR_0_7 : fd_rfc (fd_isF 0 11 7) = some 45 := rfl
theorem hR_0_8 : fd_rfc (fd_isF 0 11 8) = some 48 := rfl
theorem hR_0_9 : fd_rfc (fd_isF 0 11 9) = some 94 := rfl
theorem hR_0_10 : fd_rfc (fd_isF 0 11 10) = some 97 := rfl
theorem hR_0_11 : fd_rfc (fd_isF 0 11 11) = some 156 := rfl
theorem hF_0_12 : fd_isF 0 11 12 = some 0 := rfl
theorem hO_1 : fd_isO 1 7 = true := rfl
theorem hR_1_0 : fd_rfc (fd_isF 1 7 0) = some 2 := rfl
theorem hF_1_1 : fd_isF 1 7 1 = some 0 := rfl
theorem hF_1_2 : fd_isF 1 7 2 = some 0 := rfl
theorem hF_1_3 : fd_isF 1 7 3 = some 0 := rfl
theorem hO_3 : fd_isO 3 4 = true := rfl
theorem hR_3_0 : fd_rfc (fd_isF 3 4 0) = some 4 := rfl
theorem hF_3_1 : fd_isF 3 4 1 = some 0 := rfl
theorem hO_5 : fd_isO 5 3 = true := rfl
theorem hF_5_0 : fd_isF 5 3 0 = some 0 := rfl
theorem hF_5_1 : fd_isF 5 3 1 = some 0 := rfl
theorem hR_5_2 : fd_rfc (fd_isF 5 3 2) = some 6 := rfl
theorem hR_5_3 : fd_rfc (fd_isF 5 3 3) = some 7 := rfl
theorem hR_5_4 : fd_rfc (fd_isF 5 3 4) = some 8 := rfl
theorem hR_5_5 : fd_rfc (fd_isF 5 3 5) = some 9 := rfl
theorem hR_5_6 : fd_rfc (fd_isF 5 3 6) = some 10 := rfl
theorem hR_5_7 : fd_rfc (fd_isF 5 3 7) = some 20 := rfl
theorem hF_5_8 : fd_isF 5 3 8 = some 0 := rfl
theorem hF_5_9 : fd_isF 5 3 9 = some 0 := rfl
theorem hO_30 : fd_isO 30 8 = true := rfl
theorem hF_30_0 : fd_isF 30 8 0 = some 0 := rfl
theorem hF_30_1 : fd_isF 30 8 1 = some 0 := rfl
theorem hF_30_2 : fd_isF 30 8 2 = some 0 := rfl
theorem hF_30_3 : fd_isF 30 8 3 = some 0 := rfl
theorem hO_31 : fd_isO 31 1 = true := rfl
theorem hF_31_0 : fd_isF 31 1 0 = some 0 := rfl
theorem hF_31_1 : fd_isF 31 1 1 = some 0 := rfl
theorem hR_31_2 : fd_rfc (fd_isF 31 1 2) = some 32 := rfl
theorem hR_31_3 : fd_rfc (fd_isF 31 1 3) = some 33 := rfl
theorem hR_31_4 : fd_rfc (fd_isF 31 1 4) = some 34 := rfl
theorem hO_35 : fd_isO 35 2 = true := rfl
theorem hR_35_0 : fd_rfc (fd_isF 35 2 0) = some 36 := rfl
theorem hF_35_1 : fd_isF 35 2 1 = some 0 := rfl
theorem hR_35_2 : fd_rfc (fd_isF 35 2 2) = some 37 := rfl
theorem hF_35_3 : fd_isF 35 2 3 = some 0 := rfl
theorem hR_35_4 : fd_rfc (fd_isF 35 2 4) = some 38 := rfl
theorem hF_35_5 : fd_isF 35 2 5 = some 0 := rfl
theorem hF_35_6 : fd_isF 35 2 6 = some 0 := rfl
theorem hR_35_7 : fd_rfc (fd_isF 35 2 7) = some 39 := rfl
theorem hF_35_8 : fd_isF 35 2 8 = some 0 := rfl
theorem hR_35_9 : fd_rfc (fd_isF 35 2 9) = some 40 := rfl
theorem hR_35_10 : fd_rfc (fd_isF 35 2 10) = some 41 := rfl
theorem hO_42 : fd_isO 42 10 = true := rfl
theorem hO_45 : fd_isO 45 10 = true := rfl
theorem hO_48 : fd_isO 48 5 = true := rfl
theorem hR_48_0 : fd_rfc (fd_isF 48 5 0) = some 49 := rfl
theorem hF_48_1 : fd_isF 48 5 1 = some 0 := rfl
theorem hF_48_2 : fd_isF 48 5 2 = some 0 := rfl
theorem hR_48_3 : fd_rfc (fd_isF 48 5 3) = some 50 := rfl
theorem hR_48_4 : fd_rfc (fd_isF 48 5 4) = some 51 := rfl
theorem hO_52 : fd_isO 52 10 = true := rfl
theorem hO_55 : fd_isO 55 10 = true := rfl
theorem hO_58 : fd_isO 58 10 = true := rfl
theorem hO_61 : fd_isO 61 10 = true := rfl
theorem hO_64 : fd_isO 64 10 = true := rfl
theorem hO_67 : fd_isO 67 10 = true := rfl
theorem hO_70 : fd_isO 70 10 = true := rfl
theorem hO_73 : fd_isO 73 10 = true := rfl
theorem hO_76 : fd_isO 76 10 = true := rfl
theorem hO_79 : fd_isO 79 10 = true := rfl
theorem hO_82 : fd_isO 82 10 = true := rfl
theorem hO_85 : fd_isO 85 10 = true := rfl
theorem hO_88 : fd_isO 88 10 = true := rfl
theorem hO_91 : fd_isO 91 10 = true := rfl
theorem hO_94 : fd_isO 94 0 = true := rfl
theorem hR_94_0 : fd_rfc (fd_isF 94 0 0) = some 95 := rfl
theorem hR_94_1 : fd_rfc (fd_isF 94 0 1) = some 96 := rfl
theorem hO_97 : fd_isO 97 6 = true := rfl
theorem hF_97_0 : fd_isF 97 6 0 = some 0 := rfl
theorem hF_97_1 : fd_isF 97 6 1 = some 0 := rfl
theorem hF_97_2 : fd_isF 97 6 2 = some 0 := rfl
theorem hF_97_3 : fd_isF 97 6 3 = some 0 := rfl
theorem hR_97_4 : fd_rfc (fd_isF 97 6 4) = some 98 := rfl
theorem hR_97_5 : fd_rfc (fd_isF 97 6 5) = some 111 := rfl
theorem hR_97_6 : fd_rfc (fd_isF 97 6 6) = some 124 := rfl
theorem hR_97_7 : fd_rfc (fd_isF 97 6 7) = some 138 := rfl
theorem hR_97_8 : fd_rfc (fd_isF 97 6 8) = some 152 := rfl
theorem hR_97_9 : fd_rfc (fd_isF 97 6 9) = some 153 := rfl
theorem hR_97_10 : fd_rfc (fd_isF 97 6 10) = some 154 := rfl
theorem hR_97_11 : fd_rfc (fd_isF 97 6 11) = some 155 := rfl
theorem hF_97_12 : fd_isF 97 6 12 = some 0 := rfl
theorem hO_156 : fd_isO 156 9 = true := rfl
theorem hF_156_0 : fd_isF 156 9 0 = some 0 := rfl
theorem hR_156_1 : fd_rfc (fd_isF 156 9 1) = some 157 := rfl
theorem hR_156_2 : fd_rfc (fd_isF 156 9 2) = some 167 := rfl
theorem hR_156_3 : fd_rfc (fd_isF 156 9 3) = some 168 := rfl
theorem hR_156_4 : fd_rfc (fd_isF 156 9 4) = some 169 := rfl
theorem hR_156_5 : fd_rfc (fd_isF 156 9 5) = some 170 := rfl
theorem hR_156_6 : fd_rfc (fd_isF 156 9 6) = some 171 := rfl
theorem hR_156_7 : fd_rfc (fd_isF 156 9 7) = some 172 := rfl
theorem hR_156_8 : fd_rfc (fd_isF 156 9 8) = some 173 := rfl
theorem hO_182 : fd_isO 182 12 = true := rfl
theorem hR_182_0 : fd_rfc (fd_isF 182 12 0) = some 183 := rfl
theorem hF_182_1 : fd_isF 182 12 1 = some 0 := rfl
theorem hR_182_2 : fd_rfc (fd_isF 182 12 2) = some 184 := rfl
theorem hF_182_3 : fd_isF 182 12 3 = some 0 := rfl
theorem hR_182_4 : fd_rfc (fd_isF 182 12 4) = some 185 := rfl
theorem hF_182_5 : fd_isF 182 12 5 = some 0 := rfl
theorem hR_182_6 : fd_rfc (fd_isF 182 12 6) = some 186 := rfl
theorem hR_182_7 : fd_rfc (fd_isF 182 12 7) = some 187 := rfl
theorem hR_182_8 : fd_rfc (fd_isF 182 12 8) = some 188 := rfl
theorem hF_182_9 : fd_isF 182 12 9 = some 0 := rfl
theorem hF_182_10 : fd_isF 182 12 10 = some 0 := rfl
theorem hF_182_11 : fd_isF 182 12 11 = some 0 := rfl
theorem hF_182_12 : fd_isF 182 12 12 = some 0 := rfl
theorem hR_182_13 : fd_rfc (fd_isF 182 12 13) = some 189 := rfl
theorem hF_182_14 : fd_isF 182 12 14 = some 0 := rfl
theorem hR_182_15 : fd_rfc (fd_isF 182 12 15) = some 190 := rfl
theorem hF_182_16 : fd_isF 182 12 16 = some 0 := rfl
theorem hF_182_17 : fd_isF 182 12 17 = some 0 := rfl
theorem hF_182_18 : fd_isF 182 12 18 = some 1 := rfl
theorem hF_182_19 : fd_isF 182 12 19 = some 0 := rfl
theorem hF_182_20 : fd_isF 182 12 20 = some 0 := rfl
theorem hF_182_21 : fd_isF 182 12 21 = some 0 := rfl
theorem hF_182_22 : fd_isF 182 12 22 = some 0 := rfl
theorem hR_182_23 : fd_rfc (fd_isF 182 12 23) = some 191 := rfl
theorem hR_182_24 : fd_rfc (fd_isF 182 12 24) = some 192 := rfl
theorem hF_182_25 : fd_isF 182 12 25 = some 0 := rfl
theorem hF_182_26 : fd_isF 182 12 26 = some 0 := rfl
theorem hR_182_27 : fd_rfc (fd_isF 182 12 27) = some 193 := rfl
theorem hR_182_28 : fd_rfc (fd_isF 182 12 28) = some 194 := rfl
theorem hR_182_29 : fd_rfc (fd_isF 182 12 29) = some 195 := rfl
theorem hF_182_30 : fd_isF 182 12 30 = some 0 := rfl
theorem hF_182_31 : fd_isF 182 12 31 = some 0 := rfl
theorem hR_182_32 : fd_rfc (fd_isF 182 12 32) = some 196 := rfl
theorem hR_182_33 : fd_rfc (fd_isF 182 12 33) = some 197 := rfl
theorem hF_182_34 : fd_isF 182 12 34 = some 0 := rfl
theorem hR_182_35 : fd_rfc (fd_isF 182 12 35) = some 198 := rfl
theorem hF_182_36 : fd_isF 182 12 36 = some 0 := rfl
theorem hF_182_37 : fd_isF 182 12 37 = some 0 := rfl
theorem hF_182_38 : fd_isF 182 12 38 = some 0 := rfl
theorem hF_182_39 : fd_isF 182 12 39 = some 0 := rfl
theorem hF_182_40 : fd_isF 182 12 40 = some 0 := rfl
theorem hR_182_41 : fd_rfc (fd_isF 182 12 41) = some 199 := rfl
theorem hR_182_42 : fd_rfc (fd_isF 182 12 42) = some 200 := rfl
theorem hR_182_43 : fd_rfc (fd_isF 182 12 43) = some 201 := rfl
theorem hR_182_44 : fd_rfc (fd_isF 182 12 44) = some 202 := rfl
theorem hR_182_45 : fd_rfc (fd_isF 182 12 45) = some 203 := rfl
theorem hR_182_46 : fd_rfc (fd_isF 182 12 46) = some 204 := rfl
theorem hF_182_47 : fd_isF 182 12 47 = some 0 := rfl
theorem hR_182_48 : fd_rfc (fd_isF 182 12 48) = some 205 := rfl
theorem hR_182_49 : fd_rfc (fd_isF 182 12 49) = some 206 := rfl
theorem hR_182_50 : fd_rfc (fd_isF 182 12 50) = some 207 := rfl
theorem hR_182_51 : fd_rfc (fd_isF 182 12 51) = some 208 := rfl
theorem hR_182_52 : fd_rfc (fd_isF 182 12 52) = some 209 := rfl
theorem hF_182_53 : fd_isF 182 12 53 = some 0 := rfl
theorem hR_182_54 : fd_rfc (fd_isF 182 12 54) = some 210 := rfl
theorem hR_182_55 : fd_rfc (fd_isF 182 12 55) = some 211 := rfl
theorem hR_182_56 : fd_rfc (fd_isF 182 12 56) = some 212 := rfl
theorem hR_182_57 : fd_rfc (fd_isF 182 12 57) = some 213 := rfl
theorem hF_182_58 : fd_isF 182 12 58 = some 0 := rfl
theorem hR_182_59 : fd_rfc (fd_isF 182 12 59) = some 214 := rfl
theorem hR_182_60 : fd_rfc (fd_isF 182 12 60) = some 215 := rfl
theorem hR_182_61 : fd_rfc (fd_isF 182 12 61) = some 216 := rfl
theorem hA_of {k t n : Nat} (h : ∀ x : Int32, fd_isA k t x = (decide (¬ x < 0) && Nat.blt x.toNatClampNeg n)) (hn : n < 100000) {i : Nat} (hi : i < n) : fd_isA k t (nI i) = true := by
  rw [h, nI_clamp (by omega)]
  have h1 : ¬ nI i < 0 := nI_pos (by omega)
  simp [h1, Nat.ble_eq, Nat.blt, Nat.succ_le_of_lt hi]
theorem hL_of {k n : Nat} (h : ∀ x : Int32, fd_isL k x = (decide (¬ x < 0) && Nat.blt x.toNatClampNeg n)) (hn : n < 100000) {i : Nat} (hi : i < n) : fd_isL k (nI i) = true := by
  rw [h, nI_clamp (by omega)]
  have h1 : ¬ nI i < 0 := nI_pos (by omega)
  simp [h1, Nat.ble_eq, Nat.blt, Nat.succ_le_of_lt hi]
theorem hQ_of {k t n : Nat} {l : List Nat} (h : ∀ x : Int32, fd_isR k t x = if (decide (¬ x < 0) && Nat.blt x.toNatClampNeg n) = true then l[x.toNatClampNeg]? else none) (hn : n < 100000) {i c : Nat} (hi : i < n) (hc : l[i]? = some c) : fd_isR k t (nI i) = some c := by
  rw [h, nI_clamp (by omega), if_pos, hc]
  have h1 : ¬ nI i < 0 := nI_pos (by omega)
  simp [h1, Nat.ble_eq, Nat.blt, Nat.succ_le_of_lt hi]
theorem hRg {n s i : Nat} (hi : i < n) : ((List.range n).map (· + s))[i]? = some (i + s) := by simp [hi]
theorem hA_2 {i : Nat} (hi : i < 80) : fd_isA 2 3 (nI i) = true := hA_of (n := 80) (fun _ => rfl) (by decide) hi
theorem hL_4 {i : Nat} (hi : i < 16) : fd_isL 4 (nI i) = true := hL_of (n := 16) (fun _ => rfl) (by decide) hi
theorem hA_6 {i : Nat} (hi : i < 9) : fd_isA 6 0 (nI i) = true := hA_of (n := 9) (fun _ => rfl) (by decide) hi
theorem hA_7 {i : Nat} (hi : i < 24) : fd_isA 7 0 (nI i) = true := hA_of (n := 24) (fun _ => rfl) (by decide) hi
theorem hA_8 {i : Nat} (hi : i < 24) : fd_isA 8 0 (nI i) = true := hA_of (n := 24) (fun _ => rfl) (by decide) hi
theorem hA_9 {i : Nat} (hi : i < 24) : fd_isA 9 0 (nI i) = true := hA_of (n := 24) (fun _ => rfl) (by decide) hi
theorem hQ_10 {i : Nat} (hi : i < 9) : fd_isR 10 5 (nI i) = some (i + 11) := hQ_of (n := 9) (l := (List.range 9).map (· + 11)) (fun _ => rfl) (by decide) hi (hRg hi)
theorem hA_11 {i : Nat} (hi : i < 9) : fd_isA 11 0 (nI i) = true := hA_of (n := 9) (fun _ => rfl) (by decide) hi
theorem hA_12 {i : Nat} (hi : i < 9) : fd_isA 12 0 (nI i) = true := hA_of (n := 9) (fun _ => rfl) (by decide) hi
theorem hA_13 {i : Nat} (hi : i < 9) : fd_isA 13 0 (nI i) = true := hA_of (n := 9) (fun _ => rfl) (by decide) hi
theorem hA_14 {i : Nat} (hi : i < 9) : fd_isA 14 0 (nI i) = true := hA_of (n := 9) (fun _ => rfl) (by decide) hi
theorem hA_15 {i : Nat} (hi : i < 9) : fd_isA 15 0 (nI i) = true := hA_of (n := 9) (fun _ => rfl) (by decide) hi
theorem hA_16 {i : Nat} (hi : i < 9) : fd_isA 16 0 (nI i) = true := hA_of (n := 9) (fun _ => rfl) (by decide) hi
theorem hA_17 {i : Nat} (hi : i < 9) : fd_isA 17 0 (nI i) = true := hA_of (n := 9) (fun _ => rfl) (by decide) hi
theorem hA_18 {i : Nat} (hi : i < 9) : fd_isA 18 0 (nI i) = true := hA_of (n := 9) (fun _ => rfl) (by decide) hi
theorem hA_19 {i : Nat} (hi : i < 9) : fd_isA 19 0 (nI i) = true := hA_of (n := 9) (fun _ => rfl) (by decide) hi
theorem hQ_20 {i : Nat} (hi : i < 9) : fd_isR 20 5 (nI i) = some (i + 21) := hQ_of (n := 9) (l := (List.range 9).map (· + 21)) (fun _ => rfl) (by decide) hi (hRg hi)
theorem hA_21 {i : Nat} (hi : i < 9) : fd_isA 21 0 (nI i) = true := hA_of (n := 9) (fun _ => rfl) (by decide) hi
theorem hA_22 {i : Nat} (hi : i < 9) : fd_isA 22 0 (nI i) = true := hA_of (n := 9) (fun _ => rfl) (by decide) hi
theorem hA_23 {i : Nat} (hi : i < 9) : fd_isA 23 0 (nI i) = true := hA_of (n := 9) (fun _ => rfl) (by decide) hi
theorem hA_24 {i : Nat} (hi : i < 9) : fd_isA 24 0 (nI i) = true := hA_of (n := 9) (fun _ => rfl) (by decide) hi
theorem hA_25 {i : Nat} (hi : i < 9) : fd_isA 25 0 (nI i) = true := hA_of (n := 9) (fun _ => rfl) (by decide) hi
theorem hA_26 {i : Nat} (hi : i < 9) : fd_isA 26 0 (nI i) = true := hA_of (n := 9) (fun _ => rfl) (by decide) hi
theorem hA_27 {i : Nat} (hi : i < 9) : fd_isA 27 0 (nI i) = true := hA_of (n := 9) (fun _ => rfl) (by decide) hi
theorem hA_28 {i : Nat} (hi : i < 9) : fd_isA 28 0 (nI i) = true := hA_of (n := 9) (fun _ => rfl) (by decide) hi
theorem hA_29 {i : Nat} (hi : i < 9) : fd_isA 29 0 (nI i) = true := hA_of (n := 9) (fun _ => rfl) (by decide) hi
theorem hA_32 {i : Nat} (hi : i < 8) : fd_isA 32 0 (nI i) = true := hA_of (n := 8) (fun _ => rfl) (by decide) hi
theorem hA_33 {i : Nat} (hi : i < 8) : fd_isA 33 0 (nI i) = true := hA_of (n := 8) (fun _ => rfl) (by decide) hi
theorem hA_34 {i : Nat} (hi : i < 8) : fd_isA 34 0 (nI i) = true := hA_of (n := 8) (fun _ => rfl) (by decide) hi
theorem hA_36 {i : Nat} (hi : i < 40) : fd_isA 36 0 (nI i) = true := hA_of (n := 40) (fun _ => rfl) (by decide) hi
theorem hA_37 {i : Nat} (hi : i < 40) : fd_isA 37 0 (nI i) = true := hA_of (n := 40) (fun _ => rfl) (by decide) hi
theorem hA_38 {i : Nat} (hi : i < 40) : fd_isA 38 0 (nI i) = true := hA_of (n := 40) (fun _ => rfl) (by decide) hi
theorem hA_39 {i : Nat} (hi : i < 5) : fd_isA 39 2 (nI i) = true := hA_of (n := 5) (fun _ => rfl) (by decide) hi
theorem hA_40 {i : Nat} (hi : i < 40) : fd_isA 40 0 (nI i) = true := hA_of (n := 40) (fun _ => rfl) (by decide) hi
theorem hA_41 {i : Nat} (hi : i < 6) : fd_isA 41 0 (nI i) = true := hA_of (n := 6) (fun _ => rfl) (by decide) hi
theorem hA_43 {i : Nat} (hi : i < 8) : fd_isA 43 0 (nI i) = true := hA_of (n := 8) (fun _ => rfl) (by decide) hi
theorem hA_44 {i : Nat} (hi : i < 8) : fd_isA 44 0 (nI i) = true := hA_of (n := 8) (fun _ => rfl) (by decide) hi
theorem hA_46 {i : Nat} (hi : i < 8) : fd_isA 46 0 (nI i) = true := hA_of (n := 8) (fun _ => rfl) (by decide) hi
theorem hA_47 {i : Nat} (hi : i < 8) : fd_isA 47 0 (nI i) = true := hA_of (n := 8) (fun _ => rfl) (by decide) hi
theorem hQ_49 {i : Nat} (hi : i < 12) : fd_isR 49 6 (nI i) = some (52 + 3 * i) := hQ_of (n := 12) (l := [52, 55, 58, 61, 64, 67, 70, 73, 76, 79, 82, 85]) (fun _ => rfl) (by decide) hi ((by decide : ∀ i, i < 12 → ([52, 55, 58, 61, 64, 67, 70, 73, 76, 79, 82, 85] : List Nat)[i]? = some (52 + 3 * i)) i hi)
theorem hQ_50 {i : Nat} (hi : i < 2) : fd_isR 50 6 (nI i) = some (88 + 3 * i) := hQ_of (n := 2) (l := [88, 91]) (fun _ => rfl) (by decide) hi ((by decide : ∀ i, i < 2 → ([88, 91] : List Nat)[i]? = some (88 + 3 * i)) i hi)
theorem hA_51 {i : Nat} (hi : i < 2) : fd_isA 51 2 (nI i) = true := hA_of (n := 2) (fun _ => rfl) (by decide) hi
theorem hA_53 {i : Nat} (hi : i < 8) : fd_isA 53 0 (nI i) = true := hA_of (n := 8) (fun _ => rfl) (by decide) hi
theorem hA_54 {i : Nat} (hi : i < 8) : fd_isA 54 0 (nI i) = true := hA_of (n := 8) (fun _ => rfl) (by decide) hi
theorem hA_56 {i : Nat} (hi : i < 8) : fd_isA 56 0 (nI i) = true := hA_of (n := 8) (fun _ => rfl) (by decide) hi
theorem hA_57 {i : Nat} (hi : i < 8) : fd_isA 57 0 (nI i) = true := hA_of (n := 8) (fun _ => rfl) (by decide) hi
theorem hA_59 {i : Nat} (hi : i < 8) : fd_isA 59 0 (nI i) = true := hA_of (n := 8) (fun _ => rfl) (by decide) hi
theorem hA_60 {i : Nat} (hi : i < 8) : fd_isA 60 0 (nI i) = true := hA_of (n := 8) (fun _ => rfl) (by decide) hi
theorem hA_62 {i : Nat} (hi : i < 8) : fd_isA 62 0 (nI i) = true := hA_of (n := 8) (fun _ => rfl) (by decide) hi
theorem hA_63 {i : Nat} (hi : i < 8) : fd_isA 63 0 (nI i) = true := hA_of (n := 8) (fun _ => rfl) (by decide) hi
theorem hA_65 {i : Nat} (hi : i < 8) : fd_isA 65 0 (nI i) = true := hA_of (n := 8) (fun _ => rfl) (by decide) hi
theorem hA_66 {i : Nat} (hi : i < 8) : fd_isA 66 0 (nI i) = true := hA_of (n := 8) (fun _ => rfl) (by decide) hi
theorem hA_68 {i : Nat} (hi : i < 8) : fd_isA 68 0 (nI i) = true := hA_of (n := 8) (fun _ => rfl) (by decide) hi
theorem hA_69 {i : Nat} (hi : i < 8) : fd_isA 69 0 (nI i) = true := hA_of (n := 8) (fun _ => rfl) (by decide) hi
theorem hA_71 {i : Nat} (hi : i < 8) : fd_isA 71 0 (nI i) = true := hA_of (n := 8) (fun _ => rfl) (by decide) hi
theorem hA_72 {i : Nat} (hi : i < 8) : fd_isA 72 0 (nI i) = true := hA_of (n := 8) (fun _ => rfl) (by decide) hi
theorem hA_74 {i : Nat} (hi : i < 8) : fd_isA 74 0 (nI i) = true := hA_of (n := 8) (fun _ => rfl) (by decide) hi
theorem hA_75 {i : Nat} (hi : i < 8) : fd_isA 75 0 (nI i) = true := hA_of (n := 8) (fun _ => rfl) (by decide) hi
theorem hA_77 {i : Nat} (hi : i < 8) : fd_isA 77 0 (nI i) = true := hA_of (n := 8) (fun _ => rfl) (by decide) hi
theorem hA_78 {i : Nat} (hi : i < 8) : fd_isA 78 0 (nI i) = true := hA_of (n := 8) (fun _ => rfl) (by decide) hi
theorem hA_80 {i : Nat} (hi : i < 8) : fd_isA 80 0 (nI i) = true := hA_of (n := 8) (fun _ => rfl) (by decide) hi
theorem hA_81 {i : Nat} (hi : i < 8) : fd_isA 81 0 (nI i) = true := hA_of (n := 8) (fun _ => rfl) (by decide) hi
theorem hA_83 {i : Nat} (hi : i < 8) : fd_isA 83 0 (nI i) = true := hA_of (n := 8) (fun _ => rfl) (by decide) hi
theorem hA_84 {i : Nat} (hi : i < 8) : fd_isA 84 0 (nI i) = true := hA_of (n := 8) (fun _ => rfl) (by decide) hi
theorem hA_86 {i : Nat} (hi : i < 8) : fd_isA 86 0 (nI i) = true := hA_of (n := 8) (fun _ => rfl) (by decide) hi
theorem hA_87 {i : Nat} (hi : i < 8) : fd_isA 87 0 (nI i) = true := hA_of (n := 8) (fun _ => rfl) (by decide) hi
theorem hA_89 {i : Nat} (hi : i < 8) : fd_isA 89 0 (nI i) = true := hA_of (n := 8) (fun _ => rfl) (by decide) hi
theorem hA_90 {i : Nat} (hi : i < 8) : fd_isA 90 0 (nI i) = true := hA_of (n := 8) (fun _ => rfl) (by decide) hi
theorem hA_92 {i : Nat} (hi : i < 8) : fd_isA 92 0 (nI i) = true := hA_of (n := 8) (fun _ => rfl) (by decide) hi
theorem hA_93 {i : Nat} (hi : i < 8) : fd_isA 93 0 (nI i) = true := hA_of (n := 8) (fun _ => rfl) (by decide) hi
theorem hA_95 {i : Nat} (hi : i < 60) : fd_isA 95 0 (nI i) = true := hA_of (n := 60) (fun _ => rfl) (by decide) hi
theorem hA_96 {i : Nat} (hi : i < 60) : fd_isA 96 0 (nI i) = true := hA_of (n := 60) (fun _ => rfl) (by decide) hi
theorem hQ_98 {i : Nat} (hi : i < 12) : fd_isR 98 5 (nI i) = some (i + 99) := hQ_of (n := 12) (l := (List.range 12).map (· + 99)) (fun _ => rfl) (by decide) hi (hRg hi)
theorem hA_99 {i : Nat} (hi : i < 9) : fd_isA 99 0 (nI i) = true := hA_of (n := 9) (fun _ => rfl) (by decide) hi
theorem hA_100 {i : Nat} (hi : i < 9) : fd_isA 100 0 (nI i) = true := hA_of (n := 9) (fun _ => rfl) (by decide) hi
theorem hA_101 {i : Nat} (hi : i < 9) : fd_isA 101 0 (nI i) = true := hA_of (n := 9) (fun _ => rfl) (by decide) hi
theorem hA_102 {i : Nat} (hi : i < 9) : fd_isA 102 0 (nI i) = true := hA_of (n := 9) (fun _ => rfl) (by decide) hi
theorem hA_103 {i : Nat} (hi : i < 9) : fd_isA 103 0 (nI i) = true := hA_of (n := 9) (fun _ => rfl) (by decide) hi
theorem hA_104 {i : Nat} (hi : i < 9) : fd_isA 104 0 (nI i) = true := hA_of (n := 9) (fun _ => rfl) (by decide) hi
theorem hA_105 {i : Nat} (hi : i < 9) : fd_isA 105 0 (nI i) = true := hA_of (n := 9) (fun _ => rfl) (by decide) hi
theorem hA_106 {i : Nat} (hi : i < 9) : fd_isA 106 0 (nI i) = true := hA_of (n := 9) (fun _ => rfl) (by decide) hi
theorem hA_107 {i : Nat} (hi : i < 9) : fd_isA 107 0 (nI i) = true := hA_of (n := 9) (fun _ => rfl) (by decide) hi
theorem hA_108 {i : Nat} (hi : i < 9) : fd_isA 108 0 (nI i) = true := hA_of (n := 9) (fun _ => rfl) (by decide) hi
theorem hA_109 {i : Nat} (hi : i < 9) : fd_isA 109 0 (nI i) = true := hA_of (n := 9) (fun _ => rfl) (by decide) hi
theorem hA_110 {i : Nat} (hi : i < 9) : fd_isA 110 0 (nI i) = true := hA_of (n := 9) (fun _ => rfl) (by decide) hi
theorem hQ_111 {i : Nat} (hi : i < 12) : fd_isR 111 5 (nI i) = some (i + 112) := hQ_of (n := 12) (l := (List.range 12).map (· + 112)) (fun _ => rfl) (by decide) hi (hRg hi)
theorem hA_112 {i : Nat} (hi : i < 9) : fd_isA 112 0 (nI i) = true := hA_of (n := 9) (fun _ => rfl) (by decide) hi
theorem hA_113 {i : Nat} (hi : i < 9) : fd_isA 113 0 (nI i) = true := hA_of (n := 9) (fun _ => rfl) (by decide) hi
theorem hA_114 {i : Nat} (hi : i < 9) : fd_isA 114 0 (nI i) = true := hA_of (n := 9) (fun _ => rfl) (by decide) hi
theorem hA_115 {i : Nat} (hi : i < 9) : fd_isA 115 0 (nI i) = true := hA_of (n := 9) (fun _ => rfl) (by decide) hi
theorem hA_116 {i : Nat} (hi : i < 9) : fd_isA 116 0 (nI i) = true := hA_of (n := 9) (fun _ => rfl) (by decide) hi
theorem hA_117 {i : Nat} (hi : i < 9) : fd_isA 117 0 (nI i) = true := hA_of (n := 9) (fun _ => rfl) (by decide) hi
theorem hA_118 {i : Nat} (hi : i < 9) : fd_isA 118 0 (nI i) = true := hA_of (n := 9) (fun _ => rfl) (by decide) hi
theorem hA_119 {i : Nat} (hi : i < 9) : fd_isA 119 0 (nI i) = true := hA_of (n := 9) (fun _ => rfl) (by decide) hi
theorem hA_120 {i : Nat} (hi : i < 9) : fd_isA 120 0 (nI i) = true := hA_of (n := 9) (fun _ => rfl) (by decide) hi
theorem hA_121 {i : Nat} (hi : i < 9) : fd_isA 121 0 (nI i) = true := hA_of (n := 9) (fun _ => rfl) (by decide) hi
theorem hA_122 {i : Nat} (hi : i < 9) : fd_isA 122 0 (nI i) = true := hA_of (n := 9) (fun _ => rfl) (by decide) hi
theorem hA_123 {i : Nat} (hi : i < 9) : fd_isA 123 0 (nI i) = true := hA_of (n := 9) (fun _ => rfl) (by decide) hi
theorem hQ_124 {i : Nat} (hi : i < 13) : fd_isR 124 5 (nI i) = some (i + 125) := hQ_of (n := 13) (l := (List.range 13).map (· + 125)) (fun _ => rfl) (by decide) hi (hRg hi)
theorem hA_125 {i : Nat} (hi : i < 256) : fd_isA 125 0 (nI i) = true := hA_of (n := 256) (fun _ => rfl) (by decide) hi
theorem hA_126 {i : Nat} (hi : i < 256) : fd_isA 126 0 (nI i) = true := hA_of (n := 256) (fun _ => rfl) (by decide) hi
theorem hA_127 {i : Nat} (hi : i < 256) : fd_isA 127 0 (nI i) = true := hA_of (n := 256) (fun _ => rfl) (by decide) hi
theorem hA_128 {i : Nat} (hi : i < 256) : fd_isA 128 0 (nI i) = true := hA_of (n := 256) (fun _ => rfl) (by decide) hi
theorem hA_129 {i : Nat} (hi : i < 256) : fd_isA 129 0 (nI i) = true := hA_of (n := 256) (fun _ => rfl) (by decide) hi
theorem hA_130 {i : Nat} (hi : i < 256) : fd_isA 130 0 (nI i) = true := hA_of (n := 256) (fun _ => rfl) (by decide) hi
theorem hA_131 {i : Nat} (hi : i < 256) : fd_isA 131 0 (nI i) = true := hA_of (n := 256) (fun _ => rfl) (by decide) hi
theorem hA_132 {i : Nat} (hi : i < 256) : fd_isA 132 0 (nI i) = true := hA_of (n := 256) (fun _ => rfl) (by decide) hi
theorem hA_133 {i : Nat} (hi : i < 256) : fd_isA 133 0 (nI i) = true := hA_of (n := 256) (fun _ => rfl) (by decide) hi
theorem hA_134 {i : Nat} (hi : i < 256) : fd_isA 134 0 (nI i) = true := hA_of (n := 256) (fun _ => rfl) (by decide) hi
theorem hA_135 {i : Nat} (hi : i < 256) : fd_isA 135 0 (nI i) = true := hA_of (n := 256) (fun _ => rfl) (by decide) hi
theorem hA_136 {i : Nat} (hi : i < 256) : fd_isA 136 0 (nI i) = true := hA_of (n := 256) (fun _ => rfl) (by decide) hi
theorem hA_137 {i : Nat} (hi : i < 256) : fd_isA 137 0 (nI i) = true := hA_of (n := 256) (fun _ => rfl) (by decide) hi
theorem hQ_138 {i : Nat} (hi : i < 13) : fd_isR 138 5 (nI i) = some (i + 139) := hQ_of (n := 13) (l := (List.range 13).map (· + 139)) (fun _ => rfl) (by decide) hi (hRg hi)
theorem hA_139 {i : Nat} (hi : i < 256) : fd_isA 139 0 (nI i) = true := hA_of (n := 256) (fun _ => rfl) (by decide) hi
theorem hA_140 {i : Nat} (hi : i < 256) : fd_isA 140 0 (nI i) = true := hA_of (n := 256) (fun _ => rfl) (by decide) hi
theorem hA_141 {i : Nat} (hi : i < 256) : fd_isA 141 0 (nI i) = true := hA_of (n := 256) (fun _ => rfl) (by decide) hi
theorem hA_142 {i : Nat} (hi : i < 256) : fd_isA 142 0 (nI i) = true := hA_of (n := 256) (fun _ => rfl) (by decide) hi
theorem hA_143 {i : Nat} (hi : i < 256) : fd_isA 143 0 (nI i) = true := hA_of (n := 256) (fun _ => rfl) (by decide) hi
theorem hA_144 {i : Nat} (hi : i < 256) : fd_isA 144 0 (nI i) = true := hA_of (n := 256) (fun _ => rfl) (by decide) hi
theorem hA_145 {i : Nat} (hi : i < 256) : fd_isA 145 0 (nI i) = true := hA_of (n := 256) (fun _ => rfl) (by decide) hi
theorem hA_146 {i : Nat} (hi : i < 256) : fd_isA 146 0 (nI i) = true := hA_of (n := 256) (fun _ => rfl) (by decide) hi
theorem hA_147 {i : Nat} (hi : i < 256) : fd_isA 147 0 (nI i) = true := hA_of (n := 256) (fun _ => rfl) (by decide) hi
theorem hA_148 {i : Nat} (hi : i < 256) : fd_isA 148 0 (nI i) = true := hA_of (n := 256) (fun _ => rfl) (by decide) hi
theorem hA_149 {i : Nat} (hi : i < 256) : fd_isA 149 0 (nI i) = true := hA_of (n := 256) (fun _ => rfl) (by decide) hi
theorem hA_150 {i : Nat} (hi : i < 256) : fd_isA 150 0 (nI i) = true := hA_of (n := 256) (fun _ => rfl) (by decide) hi
theorem hA_151 {i : Nat} (hi : i < 256) : fd_isA 151 0 (nI i) = true := hA_of (n := 256) (fun _ => rfl) (by decide) hi
theorem hA_152 {i : Nat} (hi : i < 256) : fd_isA 152 0 (nI i) = true := hA_of (n := 256) (fun _ => rfl) (by decide) hi
theorem hA_153 {i : Nat} (hi : i < 256) : fd_isA 153 2 (nI i) = true := hA_of (n := 256) (fun _ => rfl) (by decide) hi
theorem hA_154 {i : Nat} (hi : i < 12) : fd_isA 154 0 (nI i) = true := hA_of (n := 12) (fun _ => rfl) (by decide) hi
theorem hA_155 {i : Nat} (hi : i < 13) : fd_isA 155 0 (nI i) = true := hA_of (n := 13) (fun _ => rfl) (by decide) hi
theorem hQ_157 {i : Nat} (hi : i < 9) : fd_isR 157 5 (nI i) = some (i + 158) := hQ_of (n := 9) (l := (List.range 9).map (· + 158)) (fun _ => rfl) (by decide) hi (hRg hi)
theorem hA_158 {i : Nat} (hi : i < 12) : fd_isA 158 0 (nI i) = true := hA_of (n := 12) (fun _ => rfl) (by decide) hi
theorem hA_159 {i : Nat} (hi : i < 12) : fd_isA 159 0 (nI i) = true := hA_of (n := 12) (fun _ => rfl) (by decide) hi
theorem hA_160 {i : Nat} (hi : i < 12) : fd_isA 160 0 (nI i) = true := hA_of (n := 12) (fun _ => rfl) (by decide) hi
theorem hA_161 {i : Nat} (hi : i < 12) : fd_isA 161 0 (nI i) = true := hA_of (n := 12) (fun _ => rfl) (by decide) hi
theorem hA_162 {i : Nat} (hi : i < 12) : fd_isA 162 0 (nI i) = true := hA_of (n := 12) (fun _ => rfl) (by decide) hi
theorem hA_163 {i : Nat} (hi : i < 12) : fd_isA 163 0 (nI i) = true := hA_of (n := 12) (fun _ => rfl) (by decide) hi
theorem hA_164 {i : Nat} (hi : i < 12) : fd_isA 164 0 (nI i) = true := hA_of (n := 12) (fun _ => rfl) (by decide) hi
theorem hA_165 {i : Nat} (hi : i < 12) : fd_isA 165 0 (nI i) = true := hA_of (n := 12) (fun _ => rfl) (by decide) hi
theorem hA_166 {i : Nat} (hi : i < 12) : fd_isA 166 0 (nI i) = true := hA_of (n := 12) (fun _ => rfl) (by decide) hi
theorem hA_167 {i : Nat} (hi : i < 9) : fd_isA 167 0 (nI i) = true := hA_of (n := 9) (fun _ => rfl) (by decide) hi
theorem hA_168 {i : Nat} (hi : i < 8) : fd_isA 168 0 (nI i) = true := hA_of (n := 8) (fun _ => rfl) (by decide) hi
theorem hA_169 {i : Nat} (hi : i < 13) : fd_isA 169 0 (nI i) = true := hA_of (n := 13) (fun _ => rfl) (by decide) hi
theorem hA_170 {i : Nat} (hi : i < 13) : fd_isA 170 0 (nI i) = true := hA_of (n := 13) (fun _ => rfl) (by decide) hi
theorem hA_171 {i : Nat} (hi : i < 8) : fd_isA 171 2 (nI i) = true := hA_of (n := 8) (fun _ => rfl) (by decide) hi
theorem hA_172 {i : Nat} (hi : i < 8) : fd_isA 172 0 (nI i) = true := hA_of (n := 8) (fun _ => rfl) (by decide) hi
theorem hQ_173 {i : Nat} (hi : i < 8) : fd_isR 173 5 (nI i) = some (i + 174) := hQ_of (n := 8) (l := (List.range 8).map (· + 174)) (fun _ => rfl) (by decide) hi (hRg hi)
theorem hA_174 {i : Nat} (hi : i < 8) : fd_isA 174 0 (nI i) = true := hA_of (n := 8) (fun _ => rfl) (by decide) hi
theorem hA_175 {i : Nat} (hi : i < 8) : fd_isA 175 0 (nI i) = true := hA_of (n := 8) (fun _ => rfl) (by decide) hi
theorem hA_176 {i : Nat} (hi : i < 8) : fd_isA 176 0 (nI i) = true := hA_of (n := 8) (fun _ => rfl) (by decide) hi
theorem hA_177 {i : Nat} (hi : i < 8) : fd_isA 177 0 (nI i) = true := hA_of (n := 8) (fun _ => rfl) (by decide) hi
theorem hA_178 {i : Nat} (hi : i < 8) : fd_isA 178 0 (nI i) = true := hA_of (n := 8) (fun _ => rfl) (by decide) hi
theorem hA_179 {i : Nat} (hi : i < 8) : fd_isA 179 0 (nI i) = true := hA_of (n := 8) (fun _ => rfl) (by decide) hi
theorem hA_180 {i : Nat} (hi : i < 8) : fd_isA 180 0 (nI i) = true := hA_of (n := 8) (fun _ => rfl) (by decide) hi
theorem hA_181 {i : Nat} (hi : i < 8) : fd_isA 181 0 (nI i) = true := hA_of (n := 8) (fun _ => rfl) (by decide) hi
theorem hA_183 {i : Nat} (hi : i < 23) : fd_isA 183 0 (nI i) = true := hA_of (n := 23) (fun _ => rfl) (by decide) hi
theorem hA_184 {i : Nat} (hi : i < 9) : fd_isA 184 0 (nI i) = true := hA_of (n := 9) (fun _ => rfl) (by decide) hi
theorem hA_185 {i : Nat} (hi : i < 81) : fd_isA 185 0 (nI i) = true := hA_of (n := 81) (fun _ => rfl) (by decide) hi
theorem hA_186 {i : Nat} (hi : i < 8) : fd_isA 186 0 (nI i) = true := hA_of (n := 8) (fun _ => rfl) (by decide) hi
theorem hA_187 {i : Nat} (hi : i < 8) : fd_isA 187 0 (nI i) = true := hA_of (n := 8) (fun _ => rfl) (by decide) hi
theorem hA_188 {i : Nat} (hi : i < 8) : fd_isA 188 0 (nI i) = true := hA_of (n := 8) (fun _ => rfl) (by decide) hi
theorem hA_189 {i : Nat} (hi : i < 80) : fd_isA 189 1 (nI i) = true := hA_of (n := 80) (fun _ => rfl) (by decide) hi
theorem hL_190 {i : Nat} (hi : i < 20) : fd_isL 190 (nI i) = true := hL_of (n := 20) (fun _ => rfl) (by decide) hi
theorem hA_191 {i : Nat} (hi : i < 9) : fd_isA 191 0 (nI i) = true := hA_of (n := 9) (fun _ => rfl) (by decide) hi
theorem hA_192 {i : Nat} (hi : i < 72) : fd_isA 192 0 (nI i) = true := hA_of (n := 72) (fun _ => rfl) (by decide) hi
theorem hA_193 {i : Nat} (hi : i < 81) : fd_isA 193 0 (nI i) = true := hA_of (n := 81) (fun _ => rfl) (by decide) hi
theorem hA_194 {i : Nat} (hi : i < 40) : fd_isA 194 0 (nI i) = true := hA_of (n := 40) (fun _ => rfl) (by decide) hi
theorem hA_195 {i : Nat} (hi : i < 40) : fd_isA 195 1 (nI i) = true := hA_of (n := 40) (fun _ => rfl) (by decide) hi
theorem hA_196 {i : Nat} (hi : i < 6) : fd_isA 196 0 (nI i) = true := hA_of (n := 6) (fun _ => rfl) (by decide) hi
theorem hA_197 {i : Nat} (hi : i < 276) : fd_isA 197 0 (nI i) = true := hA_of (n := 276) (fun _ => rfl) (by decide) hi
theorem hA_198 {i : Nat} (hi : i < 23) : fd_isA 198 0 (nI i) = true := hA_of (n := 23) (fun _ => rfl) (by decide) hi
theorem hA_199 {i : Nat} (hi : i < 160) : fd_isA 199 0 (nI i) = true := hA_of (n := 160) (fun _ => rfl) (by decide) hi
theorem hA_200 {i : Nat} (hi : i < 13) : fd_isA 200 0 (nI i) = true := hA_of (n := 13) (fun _ => rfl) (by decide) hi
theorem hA_201 {i : Nat} (hi : i < 25344) : fd_isA 201 0 (nI i) = true := hA_of (n := 25344) (fun _ => rfl) (by decide) hi
theorem hA_202 {i : Nat} (hi : i < 8) : fd_isA 202 0 (nI i) = true := hA_of (n := 8) (fun _ => rfl) (by decide) hi
theorem hA_203 {i : Nat} (hi : i < 8) : fd_isA 203 0 (nI i) = true := hA_of (n := 8) (fun _ => rfl) (by decide) hi
theorem hA_204 {i : Nat} (hi : i < 10) : fd_isA 204 0 (nI i) = true := hA_of (n := 10) (fun _ => rfl) (by decide) hi
theorem hA_205 {i : Nat} (hi : i < 2304) : fd_isA 205 2 (nI i) = true := hA_of (n := 2304) (fun _ => rfl) (by decide) hi
theorem hA_206 {i : Nat} (hi : i < 2304) : fd_isA 206 2 (nI i) = true := hA_of (n := 2304) (fun _ => rfl) (by decide) hi
theorem hA_207 {i : Nat} (hi : i < 96) : fd_isA 207 1 (nI i) = true := hA_of (n := 96) (fun _ => rfl) (by decide) hi
theorem hA_208 {i : Nat} (hi : i < 9) : fd_isA 208 0 (nI i) = true := hA_of (n := 9) (fun _ => rfl) (by decide) hi
theorem hA_209 {i : Nat} (hi : i < 8) : fd_isA 209 0 (nI i) = true := hA_of (n := 8) (fun _ => rfl) (by decide) hi
theorem hA_210 {i : Nat} (hi : i < 12) : fd_isA 210 1 (nI i) = true := hA_of (n := 12) (fun _ => rfl) (by decide) hi
theorem hA_211 {i : Nat} (hi : i < 169) : fd_isA 211 0 (nI i) = true := hA_of (n := 169) (fun _ => rfl) (by decide) hi
theorem hA_212 {i : Nat} (hi : i < 8) : fd_isA 212 0 (nI i) = true := hA_of (n := 8) (fun _ => rfl) (by decide) hi
theorem hA_213 {i : Nat} (hi : i < 23) : fd_isA 213 0 (nI i) = true := hA_of (n := 23) (fun _ => rfl) (by decide) hi
theorem hA_214 {i : Nat} (hi : i < 46) : fd_isA 214 0 (nI i) = true := hA_of (n := 46) (fun _ => rfl) (by decide) hi
theorem hA_215 {i : Nat} (hi : i < 2) : fd_isA 215 2 (nI i) = true := hA_of (n := 2) (fun _ => rfl) (by decide) hi
theorem hA_216 {i : Nat} (hi : i < 2) : fd_isA 216 0 (nI i) = true := hA_of (n := 2) (fun _ => rfl) (by decide) hi
theorem hL_217 {i : Nat} (hi : i < 1) : fd_isL 217 (nI i) = true := hL_of (n := 1) (fun _ => rfl) (by decide) hi
theorem hB_10 {r i : Nat} (hr : r < 9) (hi : i < 9) : fd_isA (r + 11) 0 (nI i) = true := by
  have h : ∀ r, r < 9 → (fd_sh (r + 11)) = (1, 0, 9, []) ∧ Nat.blt (r + 11) fd_N = true := by decide
  exact hA_of (n := 9) (fun x => by unfold fd_isA; rw [(h r hr).1, (h r hr).2]; simp) (by decide) hi
theorem hB_20 {r i : Nat} (hr : r < 9) (hi : i < 9) : fd_isA (r + 21) 0 (nI i) = true := by
  have h : ∀ r, r < 9 → (fd_sh (r + 21)) = (1, 0, 9, []) ∧ Nat.blt (r + 21) fd_N = true := by decide
  exact hA_of (n := 9) (fun x => by unfold fd_isA; rw [(h r hr).1, (h r hr).2]; simp) (by decide) hi
theorem hB_98 {r i : Nat} (hr : r < 12) (hi : i < 9) : fd_isA (r + 99) 0 (nI i) = true := by
  have h : ∀ r, r < 12 → (fd_sh (r + 99)) = (1, 0, 9, []) ∧ Nat.blt (r + 99) fd_N = true := by decide
  exact hA_of (n := 9) (fun x => by unfold fd_isA; rw [(h r hr).1, (h r hr).2]; simp) (by decide) hi
theorem hB_111 {r i : Nat} (hr : r < 12) (hi : i < 9) : fd_isA (r + 112) 0 (nI i) = true := by
  have h : ∀ r, r < 12 → (fd_sh (r + 112)) = (1, 0, 9, []) ∧ Nat.blt (r + 112) fd_N = true := by decide
  exact hA_of (n := 9) (fun x => by unfold fd_isA; rw [(h r hr).1, (h r hr).2]; simp) (by decide) hi
theorem hB_124 {r i : Nat} (hr : r < 13) (hi : i < 256) : fd_isA (r + 125) 0 (nI i) = true := by
  have h : ∀ r, r < 13 → (fd_sh (r + 125)) = (1, 0, 256, []) ∧ Nat.blt (r + 125) fd_N = true := by decide
  exact hA_of (n := 256) (fun x => by unfold fd_isA; rw [(h r hr).1, (h r hr).2]; simp) (by decide) hi
theorem hB_138 {r i : Nat} (hr : r < 13) (hi : i < 256) : fd_isA (r + 139) 0 (nI i) = true := by
  have h : ∀ r, r < 13 → (fd_sh (r + 139)) = (1, 0, 256, []) ∧ Nat.blt (r + 139) fd_N = true := by decide
  exact hA_of (n := 256) (fun x => by unfold fd_isA; rw [(h r hr).1, (h r hr).2]; simp) (by decide) hi
theorem hB_157 {r i : Nat} (hr : r < 9) (hi : i < 12) : fd_isA (r + 158) 0 (nI i) = true := by
  have h : ∀ r, r < 9 → (fd_sh (r + 158)) = (1, 0, 12, []) ∧ Nat.blt (r + 158) fd_N = true := by decide
  exact hA_of (n := 12) (fun x => by unfold fd_isA; rw [(h r hr).1, (h r hr).2]; simp) (by decide) hi
theorem hB_173 {r i : Nat} (hr : r < 8) (hi : i < 8) : fd_isA (r + 174) 0 (nI i) = true := by
  have h : ∀ r, r < 8 → (fd_sh (r + 174)) = (1, 0, 8, []) ∧ Nat.blt (r + 174) fd_N = true := by decide
  exact hA_of (n := 8) (fun x => by unfold fd_isA; rw [(h r hr).1, (h r hr).2]; simp) (by decide) hi
theorem sT_all : ∀ k, k < 218 → fd_isO k 10 = true → k ∈ ([42, 45, 52, 55, 58, 61, 64, 67, 70, 73, 76, 79, 82, 85, 88, 91] : List Nat) := by decide +kernel
theorem sT_mem {k : Nat} (h : fd_isO k 10 = true) : k ∈ ([42, 45, 52, 55, 58, 61, 64, 67, 70, 73, 76, 79, 82, 85, 88, 91] : List Nat) := sT_all k (fd_isO_of h).1 h
theorem sT_F {k j : Nat} (h : fd_isO k 10 = true) (hj : j < 8) : fd_isF k 10 j = some 0 := by
  have h2 : ∀ k, k ∈ ([42, 45, 52, 55, 58, 61, 64, 67, 70, 73, 76, 79, 82, 85, 88, 91] : List Nat) → ∀ j, j < 8 → fd_isF k 10 j = some 0 := by decide
  exact h2 k (sT_mem h) j hj
theorem sT_8 {k : Nat} (h : fd_isO k 10 = true) : fd_rfc (fd_isF k 10 8) = some (k + 1) := by
  have h2 : ∀ k, k ∈ ([42, 45, 52, 55, 58, 61, 64, 67, 70, 73, 76, 79, 82, 85, 88, 91] : List Nat) → fd_rfc (fd_isF k 10 8) = some (k + 1) := by decide
  exact h2 k (sT_mem h)
theorem sT_9 {k : Nat} (h : fd_isO k 10 = true) : fd_rfc (fd_isF k 10 9) = some (k + 2) := by
  have h2 : ∀ k, k ∈ ([42, 45, 52, 55, 58, 61, 64, 67, 70, 73, 76, 79, 82, 85, 88, 91] : List Nat) → fd_rfc (fd_isF k 10 9) = some (k + 2) := by decide
  exact h2 k (sT_mem h)
theorem sT_A1 {k i : Nat} (h : fd_isO k 10 = true) (hi : i < 8) : fd_isA (k + 1) 0 (nI i) = true := by
  have h2 : ∀ k, k ∈ ([42, 45, 52, 55, 58, 61, 64, 67, 70, 73, 76, 79, 82, 85, 88, 91] : List Nat) → fd_sh (k + 1) = (1, 0, 8, []) ∧ Nat.blt (k + 1) fd_N = true := by decide
  have h3 := h2 k (sT_mem h)
  exact hA_of (n := 8) (fun x => by unfold fd_isA; rw [h3.1, h3.2]; simp) (by decide) hi
theorem sT_A2 {k i : Nat} (h : fd_isO k 10 = true) (hi : i < 8) : fd_isA (k + 2) 0 (nI i) = true := by
  have h2 : ∀ k, k ∈ ([42, 45, 52, 55, 58, 61, 64, 67, 70, 73, 76, 79, 82, 85, 88, 91] : List Nat) → fd_sh (k + 2) = (1, 0, 8, []) ∧ Nat.blt (k + 2) fd_N = true := by decide
  have h3 := h2 k (sT_mem h)
  exact hA_of (n := 8) (fun x => by unfold fd_isA; rw [h3.1, h3.2]; simp) (by decide) hi
