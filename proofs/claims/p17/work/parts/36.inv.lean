/-! bounds that hold at every time; frames -/
def bS_lo (k : Nat) : Int := (cond (Nat.ble k 2500) (cond (Nat.ble k 1214) (cond (Nat.ble k 807) (cond (Nat.ble k 103) (cond (Nat.ble k 100) (cond (Nat.ble k 10) (cond (Nat.beq k 10) (0) (-2147483648)) (cond (Nat.ble k 11) (cond (Nat.beq k 11) (-1) (-2147483648)) (cond (Nat.beq k 100) (1) (-2147483648)))) (cond (Nat.ble k 101) (cond (Nat.beq k 101) (1) (-2147483648)) (cond (Nat.ble k 102) (cond (Nat.beq k 102) (1) (-2147483648)) (cond (Nat.beq k 103) (2) (-2147483648))))) (cond (Nat.ble k 800) (cond (Nat.ble k 401) (cond (Nat.beq k 401) (0) (-2147483648)) (cond (Nat.ble k 601) (cond (Nat.beq k 601) (0) (-2147483648)) (cond (Nat.beq k 800) (0) (-2147483648)))) (cond (Nat.ble k 805) (cond (Nat.beq k 805) (0) (-2147483648)) (cond (Nat.ble k 806) (cond (Nat.beq k 806) (1) (-2147483648)) (cond (Nat.beq k 807) (0) (-2147483648)))))) (cond (Nat.ble k 1208) (cond (Nat.ble k 902) (cond (Nat.ble k 808) (cond (Nat.beq k 808) (0) (-2147483648)) (cond (Nat.ble k 809) (cond (Nat.beq k 809) (0) (-2147483648)) (cond (Nat.beq k 902) (0) (-2147483648)))) (cond (Nat.ble k 1206) (cond (Nat.beq k 1206) (0) (-2147483648)) (cond (Nat.ble k 1207) (cond (Nat.beq k 1207) (0) (-2147483648)) (cond (Nat.beq k 1208) (0) (-2147483648))))) (cond (Nat.ble k 1211) (cond (Nat.ble k 1209) (cond (Nat.beq k 1209) (0) (-2147483648)) (cond (Nat.ble k 1210) (cond (Nat.beq k 1210) (0) (-2147483648)) (cond (Nat.beq k 1211) (0) (-2147483648)))) (cond (Nat.ble k 1212) (cond (Nat.beq k 1212) (0) (-2147483648)) (cond (Nat.ble k 1213) (cond (Nat.beq k 1213) (0) (-2147483648)) (cond (Nat.beq k 1214) (0) (-2147483648))))))) (cond (Nat.ble k 2006) (cond (Nat.ble k 1706) (cond (Nat.ble k 1601) (cond (Nat.ble k 1215) (cond (Nat.beq k 1215) (0) (-2147483648)) (cond (Nat.ble k 1216) (cond (Nat.beq k 1216) (0) (-2147483648)) (cond (Nat.beq k 1601) (0) (-2147483648)))) (cond (Nat.ble k 1602) (cond (Nat.beq k 1602) (1) (-2147483648)) (cond (Nat.ble k 1705) (cond (Nat.beq k 1705) (0) (-2147483648)) (cond (Nat.beq k 1706) (0) (-2147483648))))) (cond (Nat.ble k 2003) (cond (Nat.ble k 2001) (cond (Nat.beq k 2001) (0) (-2147483648)) (cond (Nat.ble k 2002) (cond (Nat.beq k 2002) (0) (-2147483648)) (cond (Nat.beq k 2003) (0) (-2147483648)))) (cond (Nat.ble k 2004) (cond (Nat.beq k 2004) (-1) (-2147483648)) (cond (Nat.ble k 2005) (cond (Nat.beq k 2005) (0) (-2147483648)) (cond (Nat.beq k 2006) (-1) (-2147483648)))))) (cond (Nat.ble k 2111) (cond (Nat.ble k 2108) (cond (Nat.ble k 2106) (cond (Nat.beq k 2106) (0) (-2147483648)) (cond (Nat.ble k 2107) (cond (Nat.beq k 2107) (0) (-2147483648)) (cond (Nat.beq k 2108) (0) (-2147483648)))) (cond (Nat.ble k 2109) (cond (Nat.beq k 2109) (0) (-2147483648)) (cond (Nat.ble k 2110) (cond (Nat.beq k 2110) (0) (-2147483648)) (cond (Nat.beq k 2111) (0) (-2147483648))))) (cond (Nat.ble k 2114) (cond (Nat.ble k 2112) (cond (Nat.beq k 2112) (0) (-2147483648)) (cond (Nat.ble k 2113) (cond (Nat.beq k 2113) (0) (-2147483648)) (cond (Nat.beq k 2114) (0) (-2147483648)))) (cond (Nat.ble k 2115) (cond (Nat.beq k 2115) (0) (-2147483648)) (cond (Nat.ble k 2116) (cond (Nat.beq k 2116) (0) (-2147483648)) (cond (Nat.beq k 2500) (0) (-2147483648)))))))) (cond (Nat.ble k 3035) (cond (Nat.ble k 3004) (cond (Nat.ble k 2702) (cond (Nat.ble k 2503) (cond (Nat.ble k 2501) (cond (Nat.beq k 2501) (0) (-2147483648)) (cond (Nat.ble k 2502) (cond (Nat.beq k 2502) (0) (-2147483648)) (cond (Nat.beq k 2503) (0) (-2147483648)))) (cond (Nat.ble k 2700) (cond (Nat.beq k 2700) (0) (-2147483648)) (cond (Nat.ble k 2701) (cond (Nat.beq k 2701) (0) (-2147483648)) (cond (Nat.beq k 2702) (0) (-2147483648))))) (cond (Nat.ble k 3001) (cond (Nat.ble k 2703) (cond (Nat.beq k 2703) (0) (-2147483648)) (cond (Nat.ble k 3000) (cond (Nat.beq k 3000) (0) (-2147483648)) (cond (Nat.beq k 3001) (1) (-2147483648)))) (cond (Nat.ble k 3002) (cond (Nat.beq k 3002) (1) (-2147483648)) (cond (Nat.ble k 3003) (cond (Nat.beq k 3003) (1) (-2147483648)) (cond (Nat.beq k 3004) (2) (-2147483648)))))) (cond (Nat.ble k 3014) (cond (Nat.ble k 3009) (cond (Nat.ble k 3007) (cond (Nat.beq k 3007) (0) (-2147483648)) (cond (Nat.ble k 3008) (cond (Nat.beq k 3008) (0) (-2147483648)) (cond (Nat.beq k 3009) (0) (-2147483648)))) (cond (Nat.ble k 3010) (cond (Nat.beq k 3010) (0) (-2147483648)) (cond (Nat.ble k 3011) (cond (Nat.beq k 3011) (0) (-2147483648)) (cond (Nat.beq k 3014) (0) (-2147483648))))) (cond (Nat.ble k 3022) (cond (Nat.ble k 3016) (cond (Nat.beq k 3016) (0) (-2147483648)) (cond (Nat.ble k 3017) (cond (Nat.beq k 3017) (0) (-2147483648)) (cond (Nat.beq k 3022) (0) (-2147483648)))) (cond (Nat.ble k 3025) (cond (Nat.beq k 3025) (0) (-2147483648)) (cond (Nat.ble k 3026) (cond (Nat.beq k 3026) (0) (-2147483648)) (cond (Nat.beq k 3035) (0) (-2147483648))))))) (cond (Nat.ble k 3048) (cond (Nat.ble k 3042) (cond (Nat.ble k 3038) (cond (Nat.ble k 3036) (cond (Nat.beq k 3036) (0) (-2147483648)) (cond (Nat.ble k 3037) (cond (Nat.beq k 3037) (0) (-2147483648)) (cond (Nat.beq k 3038) (0) (-2147483648)))) (cond (Nat.ble k 3039) (cond (Nat.beq k 3039) (0) (-2147483648)) (cond (Nat.ble k 3041) (cond (Nat.beq k 3041) (0) (-2147483648)) (cond (Nat.beq k 3042) (0) (-2147483648))))) (cond (Nat.ble k 3045) (cond (Nat.ble k 3043) (cond (Nat.beq k 3043) (0) (-2147483648)) (cond (Nat.ble k 3044) (cond (Nat.beq k 3044) (0) (-2147483648)) (cond (Nat.beq k 3045) (-65535) (-2147483648)))) (cond (Nat.ble k 3046) (cond (Nat.beq k 3046) (0) (-2147483648)) (cond (Nat.ble k 3047) (cond (Nat.beq k 3047) (0) (-2147483648)) (cond (Nat.beq k 3048) (0) (-2147483648)))))) (cond (Nat.ble k 3054) (cond (Nat.ble k 3051) (cond (Nat.ble k 3049) (cond (Nat.beq k 3049) (0) (-2147483648)) (cond (Nat.ble k 3050) (cond (Nat.beq k 3050) (0) (-2147483648)) (cond (Nat.beq k 3051) (-1) (-2147483648)))) (cond (Nat.ble k 3052) (cond (Nat.beq k 3052) (0) (-2147483648)) (cond (Nat.ble k 3053) (cond (Nat.beq k 3053) (0) (-2147483648)) (cond (Nat.beq k 3054) (0) (-2147483648))))) (cond (Nat.ble k 3059) (cond (Nat.ble k 3057) (cond (Nat.beq k 3057) (0) (-2147483648)) (cond (Nat.ble k 3058) (cond (Nat.beq k 3058) (0) (-2147483648)) (cond (Nat.beq k 3059) (0) (-2147483648)))) (cond (Nat.ble k 3060) (cond (Nat.beq k 3060) (0) (-2147483648)) (cond (Nat.ble k 3061) (cond (Nat.beq k 3061) (0) (-2147483648)) (cond (Nat.beq k 3062) (0) (-2147483648)))))))))
def bS_hi (k : Nat) : Int := (cond (Nat.ble k 2500) (cond (Nat.ble k 1214) (cond (Nat.ble k 807) (cond (Nat.ble k 103) (cond (Nat.ble k 100) (cond (Nat.ble k 10) (cond (Nat.beq k 10) (1) (2147483647)) (cond (Nat.ble k 11) (cond (Nat.beq k 11) (100000) (2147483647)) (cond (Nat.beq k 100) (64) (2147483647)))) (cond (Nat.ble k 101) (cond (Nat.beq k 101) (64) (2147483647)) (cond (Nat.ble k 102) (cond (Nat.beq k 102) (3) (2147483647)) (cond (Nat.beq k 103) (16) (2147483647))))) (cond (Nat.ble k 800) (cond (Nat.ble k 401) (cond (Nat.beq k 401) (262144) (2147483647)) (cond (Nat.ble k 601) (cond (Nat.beq k 601) (32768) (2147483647)) (cond (Nat.beq k 800) (65535) (2147483647)))) (cond (Nat.ble k 805) (cond (Nat.beq k 805) (65535) (2147483647)) (cond (Nat.ble k 806) (cond (Nat.beq k 806) (511) (2147483647)) (cond (Nat.beq k 807) (65536) (2147483647)))))) (cond (Nat.ble k 1208) (cond (Nat.ble k 902) (cond (Nat.ble k 808) (cond (Nat.beq k 808) (30) (2147483647)) (cond (Nat.ble k 809) (cond (Nat.beq k 809) (64) (2147483647)) (cond (Nat.beq k 902) (31) (2147483647)))) (cond (Nat.ble k 1206) (cond (Nat.beq k 1206) (64) (2147483647)) (cond (Nat.ble k 1207) (cond (Nat.beq k 1207) (12288) (2147483647)) (cond (Nat.beq k 1208) (65535) (2147483647))))) (cond (Nat.ble k 1211) (cond (Nat.ble k 1209) (cond (Nat.beq k 1209) (65535) (2147483647)) (cond (Nat.ble k 1210) (cond (Nat.beq k 1210) (65535) (2147483647)) (cond (Nat.beq k 1211) (366) (2147483647)))) (cond (Nat.ble k 1212) (cond (Nat.beq k 1212) (1) (2147483647)) (cond (Nat.ble k 1213) (cond (Nat.beq k 1213) (30) (2147483647)) (cond (Nat.beq k 1214) (65535) (2147483647))))))) (cond (Nat.ble k 2006) (cond (Nat.ble k 1706) (cond (Nat.ble k 1601) (cond (Nat.ble k 1215) (cond (Nat.beq k 1215) (1) (2147483647)) (cond (Nat.ble k 1216) (cond (Nat.beq k 1216) (1) (2147483647)) (cond (Nat.beq k 1601) (255) (2147483647)))) (cond (Nat.ble k 1602) (cond (Nat.beq k 1602) (8) (2147483647)) (cond (Nat.ble k 1705) (cond (Nat.beq k 1705) (1) (2147483647)) (cond (Nat.beq k 1706) (3) (2147483647))))) (cond (Nat.ble k 2003) (cond (Nat.ble k 2001) (cond (Nat.beq k 2001) (100000) (2147483647)) (cond (Nat.ble k 2002) (cond (Nat.beq k 2002) (255) (2147483647)) (cond (Nat.beq k 2003) (8) (2147483647)))) (cond (Nat.ble k 2004) (cond (Nat.beq k 2004) (100000) (2147483647)) (cond (Nat.ble k 2005) (cond (Nat.beq k 2005) (8) (2147483647)) (cond (Nat.beq k 2006) (100000) (2147483647)))))) (cond (Nat.ble k 2111) (cond (Nat.ble k 2108) (cond (Nat.ble k 2106) (cond (Nat.beq k 2106) (64) (2147483647)) (cond (Nat.ble k 2107) (cond (Nat.beq k 2107) (12288) (2147483647)) (cond (Nat.beq k 2108) (65535) (2147483647)))) (cond (Nat.ble k 2109) (cond (Nat.beq k 2109) (65535) (2147483647)) (cond (Nat.ble k 2110) (cond (Nat.beq k 2110) (65535) (2147483647)) (cond (Nat.beq k 2111) (366) (2147483647))))) (cond (Nat.ble k 2114) (cond (Nat.ble k 2112) (cond (Nat.beq k 2112) (1) (2147483647)) (cond (Nat.ble k 2113) (cond (Nat.beq k 2113) (30) (2147483647)) (cond (Nat.beq k 2114) (65535) (2147483647)))) (cond (Nat.ble k 2115) (cond (Nat.beq k 2115) (1) (2147483647)) (cond (Nat.ble k 2116) (cond (Nat.beq k 2116) (1) (2147483647)) (cond (Nat.beq k 2500) (64) (2147483647)))))))) (cond (Nat.ble k 3035) (cond (Nat.ble k 3004) (cond (Nat.ble k 2702) (cond (Nat.ble k 2503) (cond (Nat.ble k 2501) (cond (Nat.beq k 2501) (64) (2147483647)) (cond (Nat.ble k 2502) (cond (Nat.beq k 2502) (3) (2147483647)) (cond (Nat.beq k 2503) (16) (2147483647)))) (cond (Nat.ble k 2700) (cond (Nat.beq k 2700) (64) (2147483647)) (cond (Nat.ble k 2701) (cond (Nat.beq k 2701) (64) (2147483647)) (cond (Nat.beq k 2702) (3) (2147483647))))) (cond (Nat.ble k 3001) (cond (Nat.ble k 2703) (cond (Nat.beq k 2703) (16) (2147483647)) (cond (Nat.ble k 3000) (cond (Nat.beq k 3000) (2) (2147483647)) (cond (Nat.beq k 3001) (64) (2147483647)))) (cond (Nat.ble k 3002) (cond (Nat.beq k 3002) (64) (2147483647)) (cond (Nat.ble k 3003) (cond (Nat.beq k 3003) (3) (2147483647)) (cond (Nat.beq k 3004) (16) (2147483647)))))) (cond (Nat.ble k 3014) (cond (Nat.ble k 3009) (cond (Nat.ble k 3007) (cond (Nat.beq k 3007) (1) (2147483647)) (cond (Nat.ble k 3008) (cond (Nat.beq k 3008) (64) (2147483647)) (cond (Nat.beq k 3009) (64) (2147483647)))) (cond (Nat.ble k 3010) (cond (Nat.beq k 3010) (3) (2147483647)) (cond (Nat.ble k 3011) (cond (Nat.beq k 3011) (255) (2147483647)) (cond (Nat.beq k 3014) (32768) (2147483647))))) (cond (Nat.ble k 3022) (cond (Nat.ble k 3016) (cond (Nat.beq k 3016) (65536) (2147483647)) (cond (Nat.ble k 3017) (cond (Nat.beq k 3017) (65535) (2147483647)) (cond (Nat.beq k 3022) (65535) (2147483647)))) (cond (Nat.ble k 3025) (cond (Nat.beq k 3025) (31) (2147483647)) (cond (Nat.ble k 3026) (cond (Nat.beq k 3026) (96) (2147483647)) (cond (Nat.beq k 3035) (31) (2147483647))))))) (cond (Nat.ble k 3048) (cond (Nat.ble k 3042) (cond (Nat.ble k 3038) (cond (Nat.ble k 3036) (cond (Nat.beq k 3036) (1) (2147483647)) (cond (Nat.ble k 3037) (cond (Nat.beq k 3037) (64) (2147483647)) (cond (Nat.beq k 3038) (64) (2147483647)))) (cond (Nat.ble k 3039) (cond (Nat.beq k 3039) (8192) (2147483647)) (cond (Nat.ble k 3041) (cond (Nat.beq k 3041) (65535) (2147483647)) (cond (Nat.beq k 3042) (65535) (2147483647))))) (cond (Nat.ble k 3045) (cond (Nat.ble k 3043) (cond (Nat.beq k 3043) (65535) (2147483647)) (cond (Nat.ble k 3044) (cond (Nat.beq k 3044) (65535) (2147483647)) (cond (Nat.beq k 3045) (131070) (2147483647)))) (cond (Nat.ble k 3046) (cond (Nat.beq k 3046) (1) (2147483647)) (cond (Nat.ble k 3047) (cond (Nat.beq k 3047) (255) (2147483647)) (cond (Nat.beq k 3048) (8) (2147483647)))))) (cond (Nat.ble k 3054) (cond (Nat.ble k 3051) (cond (Nat.ble k 3049) (cond (Nat.beq k 3049) (32769) (2147483647)) (cond (Nat.ble k 3050) (cond (Nat.beq k 3050) (8) (2147483647)) (cond (Nat.beq k 3051) (32769) (2147483647)))) (cond (Nat.ble k 3052) (cond (Nat.beq k 3052) (255) (2147483647)) (cond (Nat.ble k 3053) (cond (Nat.beq k 3053) (32768) (2147483647)) (cond (Nat.beq k 3054) (8) (2147483647))))) (cond (Nat.ble k 3059) (cond (Nat.ble k 3057) (cond (Nat.beq k 3057) (65535) (2147483647)) (cond (Nat.ble k 3058) (cond (Nat.beq k 3058) (65535) (2147483647)) (cond (Nat.beq k 3059) (3) (2147483647)))) (cond (Nat.ble k 3060) (cond (Nat.beq k 3060) (255) (2147483647)) (cond (Nat.ble k 3061) (cond (Nat.beq k 3061) (3) (2147483647)) (cond (Nat.beq k 3062) (8) (2147483647)))))))))
def bS (s : Nat → Int) : Prop := ∀ k, bS_lo k ≤ s k ∧ s k ≤ bS_hi k
theorem bS_us {s : Nat → Int} {k : Nat} {v : Int} (h : bS s) (hv : bS_lo k ≤ v ∧ v ≤ bS_hi k) : bS (us s k v) := by
  intro j
  by_cases hj : j = k
  · subst hj
    rw [us_eq]
    exact hv
  · rw [us_ne hj]
    exact h j
def bC_lo (D : Nat → Nat × Nat) (a : Nat) : Int := cond (Nat.ble 48 a) (cond (Nat.beq (D a).1 1) (-128) 0) (cond (Nat.ble a 23) (cond (Nat.ble a 13) (cond (Nat.ble a 3) (cond (Nat.ble a 2) (cond (Nat.beq a 2) (0) (-2147483648)) (cond (Nat.beq a 3) (0) (-2147483648))) (cond (Nat.ble a 5) (cond (Nat.beq a 5) (-128) (-2147483648)) (cond (Nat.ble a 7) (cond (Nat.beq a 7) (-128) (-2147483648)) (cond (Nat.beq a 13) (0) (-2147483648))))) (cond (Nat.ble a 15) (cond (Nat.ble a 14) (cond (Nat.beq a 14) (0) (-2147483648)) (cond (Nat.beq a 15) (0) (-2147483648))) (cond (Nat.ble a 18) (cond (Nat.beq a 18) (0) (-2147483648)) (cond (Nat.ble a 22) (cond (Nat.beq a 22) (0) (-2147483648)) (cond (Nat.beq a 23) (0) (-2147483648)))))) (cond (Nat.ble a 31) (cond (Nat.ble a 26) (cond (Nat.ble a 24) (cond (Nat.beq a 24) (0) (-2147483648)) (cond (Nat.beq a 26) (0) (-2147483648))) (cond (Nat.ble a 28) (cond (Nat.beq a 28) (0) (-2147483648)) (cond (Nat.ble a 29) (cond (Nat.beq a 29) (0) (-2147483648)) (cond (Nat.beq a 31) (0) (-2147483648))))) (cond (Nat.ble a 34) (cond (Nat.ble a 32) (cond (Nat.beq a 32) (0) (-2147483648)) (cond (Nat.ble a 33) (cond (Nat.beq a 33) (0) (-2147483648)) (cond (Nat.beq a 34) (-128) (-2147483648)))) (cond (Nat.ble a 35) (cond (Nat.beq a 35) (-128) (-2147483648)) (cond (Nat.ble a 44) (cond (Nat.beq a 44) (0) (-2147483648)) (cond (Nat.beq a 46) (0) (-2147483648)))))))
def bC_hi (D : Nat → Nat × Nat) (a : Nat) : Int := cond (Nat.ble 48 a) (cond (Nat.beq (D a).1 1) 127 65535) (cond (Nat.ble a 23) (cond (Nat.ble a 13) (cond (Nat.ble a 3) (cond (Nat.ble a 2) (cond (Nat.beq a 2) (65535) (2147483647)) (cond (Nat.beq a 3) (65535) (2147483647))) (cond (Nat.ble a 5) (cond (Nat.beq a 5) (127) (2147483647)) (cond (Nat.ble a 7) (cond (Nat.beq a 7) (127) (2147483647)) (cond (Nat.beq a 13) (65535) (2147483647))))) (cond (Nat.ble a 15) (cond (Nat.ble a 14) (cond (Nat.beq a 14) (65535) (2147483647)) (cond (Nat.beq a 15) (65535) (2147483647))) (cond (Nat.ble a 18) (cond (Nat.beq a 18) (65535) (2147483647)) (cond (Nat.ble a 22) (cond (Nat.beq a 22) (65535) (2147483647)) (cond (Nat.beq a 23) (65535) (2147483647)))))) (cond (Nat.ble a 31) (cond (Nat.ble a 26) (cond (Nat.ble a 24) (cond (Nat.beq a 24) (65535) (2147483647)) (cond (Nat.beq a 26) (65535) (2147483647))) (cond (Nat.ble a 28) (cond (Nat.beq a 28) (65535) (2147483647)) (cond (Nat.ble a 29) (cond (Nat.beq a 29) (65535) (2147483647)) (cond (Nat.beq a 31) (65535) (2147483647))))) (cond (Nat.ble a 34) (cond (Nat.ble a 32) (cond (Nat.beq a 32) (65535) (2147483647)) (cond (Nat.ble a 33) (cond (Nat.beq a 33) (65535) (2147483647)) (cond (Nat.beq a 34) (127) (2147483647)))) (cond (Nat.ble a 35) (cond (Nat.beq a 35) (127) (2147483647)) (cond (Nat.ble a 44) (cond (Nat.beq a 44) (65535) (2147483647)) (cond (Nat.beq a 46) (65535) (2147483647)))))))
def bC (D : Nat → Nat × Nat) (c : Nat → Nat → Int) : Prop := ∀ a i, bC_lo D a ≤ c a i ∧ c a i ≤ bC_hi D a
theorem bC_uc {D : Nat → Nat × Nat} {c : Nat → Nat → Int} {a : Nat} {f : Nat → Int} (h : bC D c) (hf : ∀ i, bC_lo D a ≤ f i ∧ f i ≤ bC_hi D a) : bC D (uc c a f) := by
  intro b i
  by_cases hb : b = a
  · subst hb
    rw [uc_eq]
    exact hf i
  · rw [uc_ne hb]
    exact h b i
theorem bC_st {D : Nat → Nat × Nat} {c : Nat → Nat → Int} {a k : Nat} {x : Int} (h : bC D c) (hx : bC_lo D a ≤ x ∧ x ≤ bC_hi D a) : bC D (uc c a (ua (c a) k x)) := by
  refine bC_uc h fun i => ?_
  unfold ua
  split
  · exact hx
  · exact h a i
def fr (s s' : Nat → Int) (L : List Nat) : Prop := ∀ k, k ∉ L → s' k = s k
theorem fr_rf {s : Nat → Int} {L : List Nat} : fr s s L := fun _ _ => rfl
theorem fr_us {s s1 : Nat → Int} {L : List Nat} {k : Nat} {v : Int} (hk : k ∈ L) (h : fr s s1 L) : fr s (us s1 k v) L := by
  intro j hj
  have hne : j ≠ k := fun e => hj (by rw [e]; exact hk)
  rw [us_ne hne]
  exact h j hj
theorem fr_tr {s s1 s2 : Nat → Int} {L L1 : List Nat} (h : fr s s1 L) (h1 : fr s1 s2 L1) (hs : ∀ x ∈ L1, x ∈ L) : fr s s2 L := by
  intro j hj
  rw [h1 j (fun e => hj (hs j e)), h j hj]
def frc (c c' : Nat → Nat → Int) (A : List Nat) : Prop := ∀ a, a ∉ A → c' a = c a
theorem frc_rf {c : Nat → Nat → Int} {A : List Nat} : frc c c A := fun _ _ => rfl
theorem frc_uc {c c1 : Nat → Nat → Int} {A : List Nat} {a : Nat} {f : Nat → Int} (ha : a ∈ A) (h : frc c c1 A) : frc c (uc c1 a f) A := by
  intro b hb
  have hne : b ≠ a := fun e => hb (by rw [e]; exact ha)
  rw [uc_ne hne]
  exact h b hb
theorem frc_tr {c c1 c2 : Nat → Nat → Int} {A A1 : List Nat} (h : frc c c1 A) (h1 : frc c1 c2 A1) (hs : ∀ x ∈ A1, x ∈ A) : frc c c2 A := by
  intro b hb
  rw [h1 b (fun e => hb (hs b e)), h b hb]
/-! the machine's operations -/
theorem td_le {x y : Int} (hx : 0 ≤ x) (hy : 0 < y) : 0 ≤ x / y ∧ x / y ≤ x := ⟨Int.ediv_nonneg hx (by omega), Int.ediv_le_self _ hx⟩
theorem mi_rg (x : Int32) : -2147483648 ≤ x.toInt ∧ x.toInt ≤ 2147483647 := ⟨Int32.le_toInt x, by have := Int32.toInt_lt x; omega⟩
theorem mi_nb_bd (x : Int) : -128 ≤ mi_nb x ∧ mi_nb x ≤ 127 := by
  have e : vp_nar .byte (Int32.ofInt x) = (Int32.ofInt x).toInt8.toInt32 := vp_nar_byte _
  unfold mi_nb
  rw [e, Int8.toInt_toInt32]
  have h1 := Int8.le_toInt (Int32.ofInt x).toInt8
  have h2 := Int8.toInt_lt (Int32.ofInt x).toInt8
  omega
theorem mi_i2b_bd (x : Int) : -128 ≤ mi_i2b x ∧ mi_i2b x ≤ 127 := by
  unfold mi_i2b
  rw [Int8.toInt_toInt32]
  have h1 := Int8.le_toInt (Int32.ofInt x).toInt8
  have h2 := Int8.toInt_lt (Int32.ofInt x).toInt8
  omega
theorem mi_bv (x : Int32) : ((x.toBitVec.toNat : Nat) : Int) = x.toInt % 4294967296 := by
  have h := BitVec.toInt_eq_toNat_bmod x.toBitVec
  have e : x.toInt = x.toBitVec.toInt := rfl
  have hl := x.toBitVec.isLt
  have h2 : ((x.toBitVec.toNat : Int).bmod (2 ^ 32)) % ((2 ^ 32 : Nat) : Int) = (x.toBitVec.toNat : Int) % ((2 ^ 32 : Nat) : Int) := Int.bmod_emod
  have h3 : ((2 ^ 32 : Nat) : Int) = 4294967296 := by decide
  rw [h3] at h2
  rw [e, h, h2]
  omega
theorem mi_oi (x : Int) : (((Int32.ofInt x).toBitVec.toNat : Nat) : Int) = x % 4294967296 := by
  rw [mi_bv, Int32.toInt_ofInt]
  exact Int.bmod_emod
theorem mi_nn {b : BitVec 32} (h : b.toNat < 2147483648) : (Int32.ofBitVec b).toInt = b.toNat := by
  show b.toInt = _
  rw [BitVec.toInt_eq_toNat_cond]
  rw [if_pos (by omega)]
/-- the lowest bits -/
theorem mi_and_mk (x : Int) (k : Nat) (hk : k ≤ 30) : mi_and x (2 ^ k - 1 : Int) = x % (2 ^ k : Int) := by
  have hp : (2 : Nat) ^ k ≤ 2 ^ 30 := Nat.pow_le_pow_right (by decide) hk
  have hp1 : 1 ≤ (2 : Nat) ^ k := Nat.one_le_two_pow
  have hm : (Int32.ofInt (2 ^ k - 1 : Int)).toBitVec.toNat = 2 ^ k - 1 := by
    have h := mi_oi (2 ^ k - 1 : Int)
    have e : ((2 ^ k : Nat) : Int) = (2 : Int) ^ k := by simp
    rw [← e] at h ⊢
    omega
  unfold mi_and
  have e1 : (Int32.ofInt x &&& Int32.ofInt (2 ^ k - 1 : Int)).toBitVec.toNat = (Int32.ofInt x).toBitVec.toNat % 2 ^ k := by
    rw [Int32.toBitVec_and, BitVec.toNat_and, hm, Nat.and_two_pow_sub_one_eq_mod]
  have h3 : (Int32.ofInt x).toBitVec.toNat % 2 ^ k < 2 ^ k := Nat.mod_lt _ (by omega)
  have e2 : (Int32.ofInt x &&& Int32.ofInt (2 ^ k - 1 : Int)).toInt = ((Int32.ofInt x &&& Int32.ofInt (2 ^ k - 1 : Int)).toBitVec.toNat : Int) := mi_nn (b := (Int32.ofInt x &&& Int32.ofInt (2 ^ k - 1 : Int)).toBitVec) (by rw [e1]; omega)
  rw [e2, e1]
  rw [Int.natCast_emod, mi_oi]
  have e3 : ((2 ^ k : Nat) : Int) = (2 : Int) ^ k := by simp
  rw [e3]
  apply Int.emod_emod_of_dvd
  refine ⟨(2 : Int) ^ (32 - k), ?_⟩
  rw [← Int.pow_add, show k + (32 - k) = 32 by omega]
  decide
theorem mi_and1 (x : Int) : mi_and x 1 = x % 2 := mi_and_mk x 1 (by decide)
theorem mi_and15 (x : Int) : mi_and x 15 = x % 16 := mi_and_mk x 4 (by decide)
theorem mi_and255 (x : Int) : mi_and x 255 = x % 256 := mi_and_mk x 8 (by decide)
theorem mi_and_bd (x : Int) {m : Int} (h0 : 0 ≤ m) (h1 : m ≤ 2147483647) : 0 ≤ mi_and x m ∧ mi_and x m ≤ m := by
  have hm := mi_oi m
  have e0 : m % 4294967296 = m := Int.emod_eq_of_lt h0 (by omega)
  rw [e0] at hm
  unfold mi_and
  have e1 : (Int32.ofInt x &&& Int32.ofInt m).toBitVec.toNat ≤ (Int32.ofInt m).toBitVec.toNat := by
    rw [Int32.toBitVec_and, BitVec.toNat_and]
    exact Nat.and_le_right
  have e2 : (Int32.ofInt x &&& Int32.ofInt m).toInt = ((Int32.ofInt x &&& Int32.ofInt m).toBitVec.toNat : Int) := mi_nn (b := (Int32.ofInt x &&& Int32.ofInt m).toBitVec) (by omega)
  rw [e2]
  omega
theorem mi_shl1 : ∀ k : Nat, k < 31 → mi_shl 1 k = 2 ^ k := by decide +kernel
theorem mi_shl1i {k : Int} (h0 : 0 ≤ k) (h1 : k ≤ 30) : mi_shl 1 k = 2 ^ k.toNat := by
  have h := mi_shl1 k.toNat (by omega)
  rw [Int.toNat_of_nonneg h0] at h
  exact h
theorem mi_pw {a b : Nat} (h : a ≤ b) : (2 : Int) ^ a ≤ 2 ^ b := by
  have h1 : (2 : Nat) ^ a ≤ 2 ^ b := Nat.pow_le_pow_right (by decide) h
  have h2 := Int.ofNat_le.mpr h1
  simpa using h2
theorem mi_shl1b {k : Int} (lo hi : Nat) (h0 : (lo : Int) ≤ k) (h1 : k ≤ (hi : Int)) (h2 : hi ≤ 30) : (2 : Int) ^ lo ≤ mi_shl 1 k ∧ mi_shl 1 k ≤ (2 : Int) ^ hi := by
  rw [mi_shl1i (by omega) (by omega)]
  exact ⟨mi_pw (by omega), mi_pw (by omega)⟩
theorem mi_shl_bd (x y : Int) : -2147483648 ≤ mi_shl x y ∧ mi_shl x y ≤ 2147483647 := mi_rg _
theorem mi_shr_bd (x y : Int) : -2147483648 ≤ mi_shr x y ∧ mi_shr x y ≤ 2147483647 := mi_rg _
theorem mi_shr0 (y : Int) : mi_shr 0 y = 0 := by
  unfold mi_shr
  have e : Int32.ofInt 0 >>> (Int32.ofInt y &&& 31) = 0 := Int32.zero_shiftRight
  rw [e]
  rfl
theorem mi_shk : ∀ k : Nat, k < 32 → ((Int32.ofInt k &&& 31).toBitVec.smod 32).toNat = k := by decide +kernel
theorem mi_shr_div {x k : Int} (hx : -2147483648 ≤ x ∧ x ≤ 2147483647) (h0 : 0 ≤ k) (h1 : k ≤ 31) : mi_shr x k = x / 2 ^ k.toNat := by
  obtain ⟨j, rfl⟩ : ∃ j : Nat, k = j := ⟨k.toNat, by omega⟩
  unfold mi_shr
  show (Int32.ofInt x >>> (Int32.ofInt (j : Int) &&& 31)).toBitVec.toInt = _
  rw [Int32.toBitVec_shiftRight, BitVec.toInt_sshiftRight', mi_shk j (by omega), Int.shiftRight_eq_div_pow]
  have e : (Int32.ofInt x).toBitVec.toInt = x := mi_ti hx
  rw [e]
  simp
theorem mi_shr_nn {x k : Int} (hx : 0 ≤ x ∧ x ≤ 2147483647) (hk : 0 ≤ k ∧ k ≤ 31) : 0 ≤ mi_shr x k ∧ mi_shr x k ≤ x := by
  rw [mi_shr_div (by omega) hk.1 hk.2]
  have hp : (0 : Int) < 2 ^ k.toNat := Int.pow_pos (by decide)
  exact ⟨Int.ediv_nonneg hx.1 (by omega), Int.ediv_le_self _ hx.1⟩
theorem mi_or_bd (x y : Int) : -2147483648 ≤ mi_or x y ∧ mi_or x y ≤ 2147483647 := mi_rg _
theorem mi_xor_bd (x y : Int) : -2147483648 ≤ mi_xor x y ∧ mi_xor x y ≤ 2147483647 := mi_rg _
theorem mi_ushr_bd (x y : Int) : -2147483648 ≤ mi_ushr x y ∧ mi_ushr x y ≤ 2147483647 := mi_rg _
theorem mi_and_rg (x y : Int) : -2147483648 ≤ mi_and x y ∧ mi_and x y ≤ 2147483647 := mi_rg _
