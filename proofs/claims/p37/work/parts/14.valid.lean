set_option maxRecDepth 100000 in
theorem qv_m1 : qv_M qx_e1 := ⟨by decide +kernel, qv_in1 (List.mem_of_getElem? (i := 29) rfl), rfl, by decide, qv_d1_0⟩
set_option maxRecDepth 100000 in
theorem qv_m2 : qv_M qx_e2 := ⟨by decide +kernel, qv_in1 (List.mem_of_getElem? (i := 37) rfl), rfl, by decide, qv_d2_0⟩
set_option maxRecDepth 100000 in
theorem qv_m3 : qv_M qx_e3 := ⟨by decide +kernel, qv_in1 (List.mem_of_getElem? (i := 81) rfl), rfl, by decide, qv_d3_0⟩
set_option maxRecDepth 100000 in
theorem qv_m4 : qv_M qx_e4 := ⟨by decide +kernel, qv_in1 (List.mem_of_getElem? (i := 85) rfl), rfl, by decide, qv_d4_0⟩
set_option maxRecDepth 100000 in
theorem qv_m5 : qv_M qx_e5 := ⟨by decide +kernel, qv_in1 (List.mem_of_getElem? (i := 99) rfl), rfl, by decide, qv_d5_0⟩
set_option maxRecDepth 100000 in
theorem qv_m6 : qv_M qx_e6 := ⟨by decide +kernel, qv_in1 (List.mem_of_getElem? (i := 133) rfl), rfl, by decide, qv_d6_0⟩
set_option maxRecDepth 100000 in
theorem qv_m7 : qv_M qx_e7 := ⟨by decide +kernel, qv_in1 (List.mem_of_getElem? (i := 173) rfl), rfl, by decide, qv_d7_0⟩
set_option maxRecDepth 100000 in
theorem qv_m8 : qv_M qx_e8 := ⟨by decide +kernel, qv_in1 (List.mem_of_getElem? (i := 188) rfl), rfl, by decide, qv_d8_0⟩
set_option maxRecDepth 100000 in
theorem qv_m9 : qv_M qx_e9 := ⟨by decide +kernel, qv_in1 (List.mem_of_getElem? (i := 211) rfl), rfl, by decide, qv_d9_0⟩
set_option maxRecDepth 100000 in
theorem qv_m10 : qv_M qx_e10 := ⟨by decide +kernel, qv_in1 (List.mem_of_getElem? (i := 216) rfl), rfl, by decide, qv_d10_0⟩
set_option maxRecDepth 100000 in
theorem qv_m11 : qv_M qx_e11 := ⟨by decide +kernel, qv_in1 (List.mem_of_getElem? (i := 220) rfl), rfl, by decide, qv_d11_0⟩
set_option maxRecDepth 100000 in
theorem qv_m12 : qv_M qx_e12 := ⟨by decide +kernel, qv_in1 (List.mem_of_getElem? (i := 225) rfl), rfl, by decide, qv_d12_0⟩
set_option maxRecDepth 100000 in
theorem qv_m13 : qv_M qx_e13 := ⟨by decide +kernel, qv_in1 (List.mem_of_getElem? (i := 229) rfl), rfl, by decide, qv_d13_0⟩
set_option maxRecDepth 100000 in
theorem qv_m14 : qv_M qx_e14 := ⟨by decide +kernel, qv_in1 (List.mem_of_getElem? (i := 233) rfl), rfl, by decide, qv_d14_0⟩
set_option maxRecDepth 100000 in
theorem qv_m15 : qv_M qx_e15 := ⟨by decide +kernel, qv_in1 (List.mem_of_getElem? (i := 236) rfl), rfl, by decide, qv_d15_0⟩
set_option maxRecDepth 100000 in
theorem qv_m16 : qv_M qx_e16 := ⟨by decide +kernel, qv_in1 (List.mem_of_getElem? (i := 239) rfl), rfl, by decide, qv_d16_0⟩
set_option maxRecDepth 100000 in
theorem qv_m17 : qv_M qx_e17 := ⟨by decide +kernel, qv_in2 (List.mem_of_getElem? (i := 4) rfl), rfl, by decide, qv_d17_0⟩
set_option maxRecDepth 100000 in
theorem qv_m18 : qv_M qx_e18 := ⟨by decide +kernel, qv_in2 (List.mem_of_getElem? (i := 27) rfl), rfl, by decide, qv_d18_0⟩
set_option maxRecDepth 100000 in
theorem qv_m19 : qv_M qx_e19 := ⟨by decide +kernel, qv_in2 (List.mem_of_getElem? (i := 31) rfl), rfl, by decide, qv_d19_0⟩
set_option maxRecDepth 100000 in
theorem qv_m20 : qv_M qx_e20 := ⟨by decide +kernel, qv_in2 (List.mem_of_getElem? (i := 35) rfl), rfl, by decide, qv_d20_0⟩
set_option maxRecDepth 100000 in
theorem qv_m21 : qv_M qx_e21 := ⟨by decide +kernel, qv_in2 (List.mem_of_getElem? (i := 39) rfl), rfl, by decide, qv_d21_0⟩
set_option maxRecDepth 100000 in
theorem qv_m22 : qv_M qx_e22 := ⟨by decide +kernel, qv_in2 (List.mem_of_getElem? (i := 43) rfl), rfl, by decide, qv_d22_0⟩
set_option maxRecDepth 100000 in
theorem qv_m23 : qv_M qx_e23 := ⟨by decide +kernel, qv_in2 (List.mem_of_getElem? (i := 46) rfl), rfl, by decide, qv_d23_0⟩
set_option maxRecDepth 100000 in
theorem qv_m24 : qv_M qx_e24 := ⟨by decide +kernel, qv_in2 (List.mem_of_getElem? (i := 50) rfl), rfl, by decide, qv_d24_0⟩
set_option maxRecDepth 100000 in
theorem qv_m25 : qv_M qx_e25 := ⟨by decide +kernel, qv_in2 (List.mem_of_getElem? (i := 54) rfl), rfl, by decide, qv_d25_0⟩
set_option maxRecDepth 100000 in
theorem qv_m26 : qv_M qx_e26 := ⟨by decide +kernel, qv_in2 (List.mem_of_getElem? (i := 59) rfl), rfl, by decide, qv_d26_0⟩
set_option maxRecDepth 100000 in
theorem qv_m27 : qv_M qx_e27 := ⟨by decide +kernel, qv_in2 (List.mem_of_getElem? (i := 63) rfl), rfl, by decide, qv_d27_0⟩
set_option maxRecDepth 100000 in
theorem qv_m28 : qv_M qx_e28 := ⟨by decide +kernel, qv_in2 (List.mem_of_getElem? (i := 67) rfl), rfl, by decide, qv_d28_0⟩
set_option maxRecDepth 100000 in
theorem qv_m29 : qv_M qx_e29 := ⟨by decide +kernel, qv_in2 (List.mem_of_getElem? (i := 70) rfl), rfl, by decide, qv_d29_0⟩
set_option maxRecDepth 100000 in
theorem qv_m30 : qv_M qx_e30 := ⟨by decide +kernel, qv_in2 (List.mem_of_getElem? (i := 73) rfl), rfl, by decide, qv_d30_0⟩
set_option maxRecDepth 100000 in
theorem qv_m31 : qv_M qx_e31 := ⟨by decide +kernel, qv_in2 (List.mem_of_getElem? (i := 77) rfl), rfl, by decide, qv_d31_0⟩
set_option maxRecDepth 100000 in
theorem qv_m32 : qv_M qx_e32 := ⟨by decide +kernel, qv_in2 (List.mem_of_getElem? (i := 116) rfl), rfl, by decide, qv_d32_0⟩
set_option maxRecDepth 100000 in
theorem qv_m33 : qv_M qx_e33 := ⟨by decide +kernel, qv_in2 (List.mem_of_getElem? (i := 119) rfl), rfl, by decide, qv_d33_0⟩
set_option maxRecDepth 100000 in
theorem qv_m34 : qv_M qx_e34 := ⟨by decide +kernel, qv_in2 (List.mem_of_getElem? (i := 152) rfl), rfl, by decide, qv_d34_0⟩
set_option maxRecDepth 100000 in
theorem qv_m35 : qv_M qx_e35 := ⟨by decide +kernel, qv_in2 (List.mem_of_getElem? (i := 204) rfl), rfl, by decide, qv_d35_0⟩
set_option maxRecDepth 100000 in
theorem qv_m36 : qv_M qx_e36 := ⟨by decide +kernel, qv_in2 (List.mem_of_getElem? (i := 235) rfl), rfl, by decide, qv_d36_0⟩
set_option maxRecDepth 100000 in
theorem qv_m37 : qv_M qx_e37 := ⟨by decide +kernel, qv_in3 (List.mem_of_getElem? (i := 28) rfl), rfl, by decide, qv_d37_0⟩
set_option maxRecDepth 100000 in
theorem qv_m38 : qv_M qx_e38 := ⟨by decide +kernel, qv_in3 (List.mem_of_getElem? (i := 112) rfl), rfl, by decide, qv_d38_0⟩
set_option maxRecDepth 100000 in
theorem qv_m39 : qv_M qx_e39 := ⟨by decide +kernel, qv_in3 (List.mem_of_getElem? (i := 116) rfl), rfl, by decide, qv_d39_0⟩
set_option maxRecDepth 100000 in
theorem qv_m40 : qv_M qx_e40 := ⟨by decide +kernel, qv_in3 (List.mem_of_getElem? (i := 120) rfl), rfl, by decide, qv_d40_0⟩
set_option maxRecDepth 100000 in
theorem qv_m41 : qv_M qx_e41 := ⟨by decide +kernel, qv_in3 (List.mem_of_getElem? (i := 123) rfl), rfl, by decide, qv_d41_0⟩
set_option maxRecDepth 100000 in
theorem qv_m42 : qv_M qx_e42 := ⟨by decide +kernel, qv_in3 (List.mem_of_getElem? (i := 127) rfl), rfl, by decide, qv_d42_0⟩
set_option maxRecDepth 100000 in
theorem qv_m43 : qv_M qx_e43 := ⟨by decide +kernel, qv_in3 (List.mem_of_getElem? (i := 131) rfl), rfl, by decide, qv_d43_0⟩
set_option maxRecDepth 100000 in
theorem qv_m44 : qv_M qx_e44 := ⟨by decide +kernel, qv_in3 (List.mem_of_getElem? (i := 135) rfl), rfl, by decide, qv_d44_0⟩
set_option maxRecDepth 100000 in
theorem qv_m45 : qv_M qx_e45 := ⟨by decide +kernel, qv_in3 (List.mem_of_getElem? (i := 139) rfl), rfl, by decide, qv_d45_0⟩
set_option maxRecDepth 100000 in
theorem qv_m46 : qv_M qx_e46 := ⟨by decide +kernel, qv_in3 (List.mem_of_getElem? (i := 143) rfl), rfl, by decide, qv_d46_0⟩
set_option maxRecDepth 100000 in
theorem qv_m47 : qv_M qx_e47 := ⟨by decide +kernel, qv_in3 (List.mem_of_getElem? (i := 147) rfl), rfl, by decide, qv_d47_0⟩
set_option maxRecDepth 100000 in
theorem qv_m48 : qv_M qx_e48 := ⟨by decide +kernel, qv_in3 (List.mem_of_getElem? (i := 153) rfl), rfl, by decide, qv_d48_0⟩
set_option maxRecDepth 100000 in
theorem qv_m49 : qv_M qx_e49 := ⟨by decide +kernel, qv_in3 (List.mem_of_getElem? (i := 157) rfl), rfl, by decide, qv_d49_0⟩
set_option maxRecDepth 100000 in
theorem qv_m50 : qv_M qx_e50 := ⟨by decide +kernel, qv_in3 (List.mem_of_getElem? (i := 161) rfl), rfl, by decide, qv_d50_0⟩
set_option maxRecDepth 100000 in
theorem qv_m51 : qv_M qx_e51 := ⟨by decide +kernel, qv_in3 (List.mem_of_getElem? (i := 165) rfl), rfl, by decide, qv_d51_0⟩
set_option maxRecDepth 100000 in
theorem qv_m52 : qv_M qx_e52 := ⟨by decide +kernel, qv_in3 (List.mem_of_getElem? (i := 170) rfl), rfl, by decide, qv_d52_0⟩
set_option maxRecDepth 100000 in
theorem qv_m53 : qv_M qx_e53 := ⟨by decide +kernel, qv_in3 (List.mem_of_getElem? (i := 174) rfl), rfl, by decide, qv_d53_0⟩
set_option maxRecDepth 100000 in
theorem qv_m54 : qv_M qx_e54 := ⟨by decide +kernel, qv_in3 (List.mem_of_getElem? (i := 179) rfl), rfl, by decide, qv_d54_0⟩
set_option maxRecDepth 100000 in
theorem qv_m55 : qv_M qx_e55 := ⟨by decide +kernel, qv_in3 (List.mem_of_getElem? (i := 186) rfl), rfl, by decide, qv_d55_0⟩
set_option maxRecDepth 100000 in
theorem qv_m56 : qv_M qx_e56 := ⟨by decide +kernel, qv_in3 (List.mem_of_getElem? (i := 191) rfl), rfl, by decide, qv_d56_0⟩
set_option maxRecDepth 100000 in
theorem qv_m57 : qv_M qx_e57 := ⟨by decide +kernel, qv_in3 (List.mem_of_getElem? (i := 195) rfl), rfl, by decide, qv_d57_0⟩
set_option maxRecDepth 100000 in
theorem qv_m58 : qv_M qx_e58 := ⟨by decide +kernel, qv_in3 (List.mem_of_getElem? (i := 199) rfl), rfl, by decide, qv_d58_0⟩
set_option maxRecDepth 100000 in
theorem qv_m59 : qv_M qx_e59 := ⟨by decide +kernel, qv_in3 (List.mem_of_getElem? (i := 205) rfl), rfl, by decide, qv_d59_0⟩
set_option maxRecDepth 100000 in
theorem qv_m60 : qv_M qx_e60 := ⟨by decide +kernel, qv_in3 (List.mem_of_getElem? (i := 209) rfl), rfl, by decide, qv_d60_0⟩
set_option maxRecDepth 100000 in
theorem qv_m61 : qv_M qx_e61 := ⟨by decide +kernel, qv_in3 (List.mem_of_getElem? (i := 213) rfl), rfl, by decide, qv_d61_0⟩
set_option maxRecDepth 100000 in
theorem qv_m62 : qv_M qx_e62 := ⟨by decide +kernel, qv_in3 (List.mem_of_getElem? (i := 216) rfl), rfl, by decide, qv_d62_0⟩
set_option maxRecDepth 100000 in
theorem qv_m63 : qv_M qx_e63 := ⟨by decide +kernel, qv_in3 (List.mem_of_getElem? (i := 220) rfl), rfl, by decide, qv_d63_0⟩
set_option maxRecDepth 100000 in
theorem qv_m64 : qv_M qx_e64 := ⟨by decide +kernel, qv_in3 (List.mem_of_getElem? (i := 224) rfl), rfl, by decide, qv_d64_0⟩
set_option maxRecDepth 100000 in
theorem qv_m65 : qv_M qx_e65 := ⟨by decide +kernel, qv_in3 (List.mem_of_getElem? (i := 228) rfl), rfl, by decide, qv_d65_0⟩
set_option maxRecDepth 100000 in
theorem qv_m66 : qv_M qx_e66 := ⟨by decide +kernel, qv_in3 (List.mem_of_getElem? (i := 232) rfl), rfl, by decide, qv_d66_0⟩
set_option maxRecDepth 100000 in
theorem qv_m67 : qv_M qx_e67 := ⟨by decide +kernel, qv_in3 (List.mem_of_getElem? (i := 236) rfl), rfl, by decide, qv_d67_0⟩
set_option maxRecDepth 100000 in
theorem qv_m68 : qv_M qx_e68 := ⟨by decide +kernel, qv_in4 (List.mem_of_getElem? (i := 0) rfl), rfl, by decide, qv_d68_0⟩
set_option maxRecDepth 100000 in
theorem qv_m69 : qv_M qx_e69 := ⟨by decide +kernel, qv_in4 (List.mem_of_getElem? (i := 5) rfl), rfl, by decide, qv_d69_0⟩
set_option maxRecDepth 100000 in
theorem qv_m70 : qv_M qx_e70 := ⟨by decide +kernel, qv_in4 (List.mem_of_getElem? (i := 8) rfl), rfl, by decide, qv_d70_0⟩
set_option maxRecDepth 100000 in
theorem qv_m71 : qv_M qx_e71 := ⟨by decide +kernel, qv_in4 (List.mem_of_getElem? (i := 12) rfl), rfl, by decide, qv_d71_0⟩
set_option maxRecDepth 100000 in
theorem qv_m72 : qv_M qx_e72 := ⟨by decide +kernel, qv_in4 (List.mem_of_getElem? (i := 16) rfl), rfl, by decide, qv_d72_0⟩
set_option maxRecDepth 100000 in
theorem qv_m73 : qv_M qx_e73 := ⟨by decide +kernel, qv_in4 (List.mem_of_getElem? (i := 20) rfl), rfl, by decide, qv_d73_0⟩
set_option maxRecDepth 100000 in
theorem qv_m74 : qv_M qx_e74 := ⟨by decide +kernel, qv_in4 (List.mem_of_getElem? (i := 23) rfl), rfl, by decide, qv_d74_0⟩
set_option maxRecDepth 100000 in
theorem qv_m75 : qv_M qx_e75 := ⟨by decide +kernel, qv_in4 (List.mem_of_getElem? (i := 30) rfl), rfl, by decide, qv_d75_0⟩
set_option maxRecDepth 100000 in
theorem qv_m76 : qv_M qx_e76 := ⟨by decide +kernel, qv_in4 (List.mem_of_getElem? (i := 34) rfl), rfl, by decide, qv_d76_0⟩
set_option maxRecDepth 100000 in
theorem qv_m77 : qv_M qx_e77 := ⟨by decide +kernel, qv_in4 (List.mem_of_getElem? (i := 38) rfl), rfl, by decide, qv_d77_0⟩
set_option maxRecDepth 100000 in
theorem qv_m78 : qv_M qx_e78 := ⟨by decide +kernel, qv_in4 (List.mem_of_getElem? (i := 42) rfl), rfl, by decide, qv_d78_0⟩
set_option maxRecDepth 100000 in
theorem qv_m79 : qv_M qx_e79 := ⟨by decide +kernel, qv_in4 (List.mem_of_getElem? (i := 46) rfl), rfl, by decide, qv_d79_0⟩
set_option maxRecDepth 100000 in
theorem qv_m80 : qv_M qx_e80 := ⟨by decide +kernel, qv_in4 (List.mem_of_getElem? (i := 50) rfl), rfl, by decide, qv_d80_0⟩
set_option maxRecDepth 100000 in
theorem qv_m81 : qv_M qx_e81 := ⟨by decide +kernel, qv_in4 (List.mem_of_getElem? (i := 56) rfl), rfl, by decide, qv_d81_0⟩
set_option maxRecDepth 100000 in
theorem qv_m82 : qv_M qx_e82 := ⟨by decide +kernel, qv_in4 (List.mem_of_getElem? (i := 59) rfl), rfl, by decide, qv_d82_0⟩
set_option maxRecDepth 100000 in
theorem qv_m83 : qv_M qx_e83 := ⟨by decide +kernel, qv_in4 (List.mem_of_getElem? (i := 62) rfl), rfl, by decide, qv_d83_0⟩
set_option maxRecDepth 100000 in
theorem qv_m84 : qv_M qx_e84 := ⟨by decide +kernel, qv_in4 (List.mem_of_getElem? (i := 67) rfl), rfl, by decide, qv_d84_0⟩
set_option maxRecDepth 100000 in
theorem qv_m85 : qv_M qx_e85 := ⟨by decide +kernel, qv_in4 (List.mem_of_getElem? (i := 71) rfl), rfl, by decide, qv_d85_0⟩
set_option maxRecDepth 100000 in
theorem qv_m86 : qv_M qx_e86 := ⟨by decide +kernel, qv_in4 (List.mem_of_getElem? (i := 75) rfl), rfl, by decide, qv_d86_0⟩
set_option maxRecDepth 100000 in
theorem qv_m87 : qv_M qx_e87 := ⟨by decide +kernel, qv_in4 (List.mem_of_getElem? (i := 80) rfl), rfl, by decide, qv_d87_0⟩
set_option maxRecDepth 100000 in
theorem qv_m88 : qv_M qx_e88 := ⟨by decide +kernel, qv_in4 (List.mem_of_getElem? (i := 84) rfl), rfl, by decide, qv_d88_0⟩
set_option maxRecDepth 100000 in
theorem qv_m89 : qv_M qx_e89 := ⟨by decide +kernel, qv_in4 (List.mem_of_getElem? (i := 90) rfl), rfl, by decide, qv_d89_0⟩
set_option maxRecDepth 100000 in
theorem qv_m90 : qv_M qx_e90 := ⟨by decide +kernel, qv_in4 (List.mem_of_getElem? (i := 94) rfl), rfl, by decide, qv_d90_0⟩
set_option maxRecDepth 100000 in
theorem qv_m91 : qv_M qx_e91 := ⟨by decide +kernel, qv_in4 (List.mem_of_getElem? (i := 98) rfl), rfl, by decide, qv_d91_0⟩
set_option maxRecDepth 100000 in
theorem qv_m92 : qv_M qx_e92 := ⟨by decide +kernel, qv_in4 (List.mem_of_getElem? (i := 103) rfl), rfl, by decide, qv_d92_0⟩
set_option maxRecDepth 100000 in
theorem qv_m93 : qv_M qx_e93 := ⟨by decide +kernel, qv_in4 (List.mem_of_getElem? (i := 106) rfl), rfl, by decide, qv_d93_0⟩
set_option maxRecDepth 100000 in
theorem qv_m94 : qv_M qx_e94 := ⟨by decide +kernel, qv_in4 (List.mem_of_getElem? (i := 113) rfl), rfl, by decide, qv_d94_0⟩
set_option maxRecDepth 100000 in
theorem qv_m95 : qv_M qx_e95 := ⟨by decide +kernel, qv_in4 (List.mem_of_getElem? (i := 120) rfl), rfl, by decide, qv_d95_0⟩
set_option maxRecDepth 100000 in
theorem qv_m96 : qv_M qx_e96 := ⟨by decide +kernel, qv_in4 (List.mem_of_getElem? (i := 125) rfl), rfl, by decide, qv_d96_0⟩
set_option maxRecDepth 100000 in
theorem qv_m97 : qv_M qx_e97 := ⟨by decide +kernel, qv_in4 (List.mem_of_getElem? (i := 131) rfl), rfl, by decide, qv_d97_0⟩
set_option maxRecDepth 100000 in
theorem qv_m98 : qv_M qx_e98 := ⟨by decide +kernel, qv_in4 (List.mem_of_getElem? (i := 136) rfl), rfl, by decide, qv_d98_0⟩
set_option maxRecDepth 100000 in
theorem qv_m99 : qv_M qx_e99 := ⟨by decide +kernel, qv_in4 (List.mem_of_getElem? (i := 140) rfl), rfl, by decide, qv_d99_0⟩
set_option maxRecDepth 100000 in
theorem qv_m100 : qv_M qx_e100 := ⟨by decide +kernel, qv_in4 (List.mem_of_getElem? (i := 143) rfl), rfl, by decide, qv_d100_0⟩
set_option maxRecDepth 100000 in
theorem qv_m101 : qv_M qx_e101 := ⟨by decide +kernel, qv_in4 (List.mem_of_getElem? (i := 147) rfl), rfl, by decide, qv_d101_0⟩
set_option maxRecDepth 100000 in
theorem qv_m102 : qv_M qx_e102 := ⟨by decide +kernel, qv_in4 (List.mem_of_getElem? (i := 151) rfl), rfl, by decide, qv_d102_0⟩
set_option maxRecDepth 100000 in
theorem qv_m103 : qv_M qx_e103 := ⟨by decide +kernel, qv_in4 (List.mem_of_getElem? (i := 155) rfl), rfl, by decide, qv_d103_0⟩
set_option maxRecDepth 100000 in
theorem qv_m104 : qv_M qx_e104 := ⟨by decide +kernel, qv_in4 (List.mem_of_getElem? (i := 159) rfl), rfl, by decide, qv_d104_0⟩
set_option maxRecDepth 100000 in
theorem qv_m105 : qv_M qx_e105 := ⟨by decide +kernel, qv_in4 (List.mem_of_getElem? (i := 164) rfl), rfl, by decide, qv_d105_0⟩
set_option maxRecDepth 100000 in
theorem qv_m106 : qv_M qx_e106 := ⟨by decide +kernel, qv_in4 (List.mem_of_getElem? (i := 168) rfl), rfl, by decide, qv_d106_0⟩
set_option maxRecDepth 100000 in
theorem qv_m107 : qv_M qx_e107 := ⟨by decide +kernel, qv_in4 (List.mem_of_getElem? (i := 174) rfl), rfl, by decide, qv_d107_0⟩
set_option maxRecDepth 100000 in
theorem qv_m108 : qv_M qx_e108 := ⟨by decide +kernel, qv_in4 (List.mem_of_getElem? (i := 178) rfl), rfl, by decide, qv_d108_0⟩
set_option maxRecDepth 100000 in
theorem qv_m109 : qv_M qx_e109 := ⟨by decide +kernel, qv_in4 (List.mem_of_getElem? (i := 181) rfl), rfl, by decide, qv_d109_0⟩
set_option maxRecDepth 100000 in
theorem qv_m110 : qv_M qx_e110 := ⟨by decide +kernel, qv_in4 (List.mem_of_getElem? (i := 185) rfl), rfl, by decide, qv_d110_0⟩
set_option maxRecDepth 100000 in
theorem qv_m111 : qv_M qx_e111 := ⟨by decide +kernel, qv_in4 (List.mem_of_getElem? (i := 190) rfl), rfl, by decide, qv_d111_0⟩
set_option maxRecDepth 100000 in
theorem qv_m112 : qv_M qx_e112 := ⟨by decide +kernel, qv_in4 (List.mem_of_getElem? (i := 196) rfl), rfl, by decide, qv_d112_0⟩
set_option maxRecDepth 100000 in
theorem qv_m113 : qv_M qx_e113 := ⟨by decide +kernel, qv_in4 (List.mem_of_getElem? (i := 200) rfl), rfl, by decide, qv_d113_0⟩
set_option maxRecDepth 100000 in
theorem qv_m114 : qv_M qx_e114 := ⟨by decide +kernel, qv_in4 (List.mem_of_getElem? (i := 204) rfl), rfl, by decide, qv_d114_0⟩
set_option maxRecDepth 100000 in
theorem qv_m115 : qv_M qx_e115 := ⟨by decide +kernel, qv_in4 (List.mem_of_getElem? (i := 207) rfl), rfl, by decide, qv_d115_0⟩
set_option maxRecDepth 100000 in
theorem qv_m116 : qv_M qx_e116 := ⟨by decide +kernel, qv_in4 (List.mem_of_getElem? (i := 215) rfl), rfl, by decide, qv_d116_0⟩
set_option maxRecDepth 100000 in
theorem qv_m117 : qv_M qx_e117 := ⟨by decide +kernel, qv_in4 (List.mem_of_getElem? (i := 219) rfl), rfl, by decide, qv_d117_0⟩
set_option maxRecDepth 100000 in
theorem qv_m118 : qv_M qx_e118 := ⟨by decide +kernel, qv_in4 (List.mem_of_getElem? (i := 223) rfl), rfl, by decide, qv_d118_0⟩
set_option maxRecDepth 100000 in
theorem qv_m119 : qv_M qx_e119 := ⟨by decide +kernel, qv_in4 (List.mem_of_getElem? (i := 227) rfl), rfl, by decide, qv_d119_0⟩
set_option maxRecDepth 100000 in
theorem qv_m120 : qv_M qx_e120 := ⟨by decide +kernel, qv_in4 (List.mem_of_getElem? (i := 233) rfl), rfl, by decide, qv_d120_0⟩
set_option maxRecDepth 100000 in
theorem qv_m121 : qv_M qx_e121 := ⟨by decide +kernel, qv_in4 (List.mem_of_getElem? (i := 237) rfl), rfl, by decide, qv_d121_0⟩
set_option maxRecDepth 100000 in
theorem qv_m122 : qv_M qx_e122 := ⟨by decide +kernel, qv_in5 (List.mem_of_getElem? (i := 1) rfl), rfl, by decide, qv_d122_0⟩
set_option maxRecDepth 100000 in
theorem qv_m123 : qv_M qx_e123 := ⟨by decide +kernel, qv_in5 (List.mem_of_getElem? (i := 6) rfl), rfl, by decide, qv_d123_0⟩
set_option maxRecDepth 100000 in
theorem qv_m124 : qv_M qx_e124 := ⟨by decide +kernel, qv_in5 (List.mem_of_getElem? (i := 13) rfl), rfl, by decide, qv_d124_0⟩
set_option maxRecDepth 100000 in
theorem qv_m125 : qv_M qx_e125 := ⟨by decide +kernel, qv_in5 (List.mem_of_getElem? (i := 19) rfl), rfl, by decide, qv_d125_0⟩
set_option maxRecDepth 100000 in
theorem qv_m126 : qv_M qx_e126 := ⟨by decide +kernel, qv_in5 (List.mem_of_getElem? (i := 25) rfl), rfl, by decide, qv_d126_0⟩
set_option maxRecDepth 100000 in
theorem qv_m127 : qv_M qx_e127 := ⟨by decide +kernel, qv_in5 (List.mem_of_getElem? (i := 29) rfl), rfl, by decide, qv_d127_0⟩
set_option maxRecDepth 100000 in
theorem qv_m128 : qv_M qx_e128 := ⟨by decide +kernel, qv_in5 (List.mem_of_getElem? (i := 33) rfl), rfl, by decide, qv_d128_0⟩
set_option maxRecDepth 100000 in
theorem qv_m129 : qv_M qx_e129 := ⟨by decide +kernel, qv_in5 (List.mem_of_getElem? (i := 37) rfl), rfl, by decide, qv_d129_0⟩
set_option maxRecDepth 100000 in
theorem qv_m130 : qv_M qx_e130 := ⟨by decide +kernel, qv_in5 (List.mem_of_getElem? (i := 43) rfl), rfl, by decide, qv_d130_0⟩
set_option maxRecDepth 100000 in
theorem qv_m131 : qv_M qx_e131 := ⟨by decide +kernel, qv_in5 (List.mem_of_getElem? (i := 47) rfl), rfl, by decide, qv_d131_0⟩
set_option maxRecDepth 100000 in
theorem qv_m132 : qv_M qx_e132 := ⟨by decide +kernel, qv_in5 (List.mem_of_getElem? (i := 51) rfl), rfl, by decide, qv_d132_0⟩
set_option maxRecDepth 100000 in
theorem qv_m133 : qv_M qx_e133 := ⟨by decide +kernel, qv_in5 (List.mem_of_getElem? (i := 55) rfl), rfl, by decide, qv_d133_0⟩
set_option maxRecDepth 100000 in
theorem qv_m134 : qv_M qx_e134 := ⟨by decide +kernel, qv_in5 (List.mem_of_getElem? (i := 59) rfl), rfl, by decide, qv_d134_0⟩
set_option maxRecDepth 100000 in
theorem qv_m135 : qv_M qx_e135 := ⟨by decide +kernel, qv_in5 (List.mem_of_getElem? (i := 63) rfl), rfl, by decide, qv_d135_0⟩
set_option maxRecDepth 100000 in
theorem qv_m136 : qv_M qx_e136 := ⟨by decide +kernel, qv_in5 (List.mem_of_getElem? (i := 69) rfl), rfl, by decide, qv_d136_0⟩
set_option maxRecDepth 100000 in
theorem qv_m137 : qv_M qx_e137 := ⟨by decide +kernel, qv_in5 (List.mem_of_getElem? (i := 75) rfl), rfl, by decide, qv_d137_0⟩
set_option maxRecDepth 100000 in
theorem qv_m138 : qv_M qx_e138 := ⟨by decide +kernel, qv_in5 (List.mem_of_getElem? (i := 81) rfl), rfl, by decide, qv_d138_0⟩
set_option maxRecDepth 100000 in
theorem qv_m139 : qv_M qx_e139 := ⟨by decide +kernel, qv_in5 (List.mem_of_getElem? (i := 85) rfl), rfl, by decide, qv_d139_0⟩
set_option maxRecDepth 100000 in
theorem qv_m140 : qv_M qx_e140 := ⟨by decide +kernel, qv_in5 (List.mem_of_getElem? (i := 89) rfl), rfl, by decide, qv_d140_0⟩
set_option maxRecDepth 100000 in
theorem qv_m141 : qv_M qx_e141 := ⟨by decide +kernel, qv_in5 (List.mem_of_getElem? (i := 93) rfl), rfl, by decide, qv_d141_0⟩
set_option maxRecDepth 100000 in
theorem qv_m142 : qv_M qx_e142 := ⟨by decide +kernel, qv_in5 (List.mem_of_getElem? (i := 97) rfl), rfl, by decide, qv_d142_0⟩
set_option maxRecDepth 100000 in
theorem qv_m143 : qv_M qx_e143 := ⟨by decide +kernel, qv_in5 (List.mem_of_getElem? (i := 101) rfl), rfl, by decide, qv_d143_0⟩
set_option maxRecDepth 100000 in
theorem qv_m144 : qv_M qx_e144 := ⟨by decide +kernel, qv_in5 (List.mem_of_getElem? (i := 106) rfl), rfl, by decide, qv_d144_0⟩
set_option maxRecDepth 100000 in
theorem qv_m145 : qv_M qx_e145 := ⟨by decide +kernel, qv_in5 (List.mem_of_getElem? (i := 110) rfl), rfl, by decide, qv_d145_0⟩
set_option maxRecDepth 100000 in
theorem qv_m146 : qv_M qx_e146 := ⟨by decide +kernel, qv_in5 (List.mem_of_getElem? (i := 114) rfl), rfl, by decide, qv_d146_0⟩
set_option maxRecDepth 100000 in
theorem qv_m147 : qv_M qx_e147 := ⟨by decide +kernel, qv_in5 (List.mem_of_getElem? (i := 118) rfl), rfl, by decide, qv_d147_0⟩
set_option maxRecDepth 100000 in
theorem qv_m148 : qv_M qx_e148 := ⟨by decide +kernel, qv_in5 (List.mem_of_getElem? (i := 122) rfl), rfl, by decide, qv_d148_0⟩
set_option maxRecDepth 100000 in
theorem qv_m149 : qv_M qx_e149 := ⟨by decide +kernel, qv_in5 (List.mem_of_getElem? (i := 126) rfl), rfl, by decide, qv_d149_0⟩
set_option maxRecDepth 100000 in
theorem qv_m150 : qv_M qx_e150 := ⟨by decide +kernel, qv_in5 (List.mem_of_getElem? (i := 130) rfl), rfl, by decide, qv_d150_0⟩
set_option maxRecDepth 100000 in
theorem qv_m151 : qv_M qx_e151 := ⟨by decide +kernel, qv_in5 (List.mem_of_getElem? (i := 134) rfl), rfl, by decide, qv_d151_0⟩
set_option maxRecDepth 100000 in
theorem qv_m152 : qv_M qx_e152 := ⟨by decide +kernel, qv_in5 (List.mem_of_getElem? (i := 138) rfl), rfl, by decide, qv_d152_0⟩
set_option maxRecDepth 100000 in
theorem qv_m153 : qv_M qx_e153 := ⟨by decide +kernel, qv_in5 (List.mem_of_getElem? (i := 146) rfl), rfl, by decide, qv_d153_0⟩
set_option maxRecDepth 100000 in
theorem qv_m154 : qv_M qx_e154 := ⟨by decide +kernel, qv_in5 (List.mem_of_getElem? (i := 150) rfl), rfl, by decide, qv_d154_0⟩
set_option maxRecDepth 100000 in
theorem qv_m155 : qv_M qx_e155 := ⟨by decide +kernel, qv_in5 (List.mem_of_getElem? (i := 154) rfl), rfl, by decide, qv_d155_0⟩
set_option maxRecDepth 100000 in
theorem qv_m156 : qv_M qx_e156 := ⟨by decide +kernel, qv_in5 (List.mem_of_getElem? (i := 158) rfl), rfl, by decide, qv_d156_0⟩
set_option maxRecDepth 100000 in
theorem qv_m157 : qv_M qx_e157 := ⟨by decide +kernel, qv_in5 (List.mem_of_getElem? (i := 162) rfl), rfl, by decide, qv_d157_0⟩
set_option maxRecDepth 100000 in
theorem qv_m158 : qv_M qx_e158 := ⟨by decide +kernel, qv_in5 (List.mem_of_getElem? (i := 166) rfl), rfl, by decide, qv_d158_0⟩
set_option maxRecDepth 100000 in
theorem qv_m159 : qv_M qx_e159 := ⟨by decide +kernel, qv_in5 (List.mem_of_getElem? (i := 170) rfl), rfl, by decide, qv_d159_0⟩
set_option maxRecDepth 100000 in
theorem qv_m160 : qv_M qx_e160 := ⟨by decide +kernel, qv_in5 (List.mem_of_getElem? (i := 174) rfl), rfl, by decide, qv_d160_0⟩
set_option maxRecDepth 100000 in
theorem qv_m161 : qv_M qx_e161 := ⟨by decide +kernel, qv_in5 (List.mem_of_getElem? (i := 179) rfl), rfl, by decide, qv_d161_0⟩
set_option maxRecDepth 100000 in
theorem qv_m162 : qv_M qx_e162 := ⟨by decide +kernel, qv_in5 (List.mem_of_getElem? (i := 182) rfl), rfl, by decide, qv_d162_0⟩
set_option maxRecDepth 100000 in
theorem qv_m163 : qv_M qx_e163 := ⟨by decide +kernel, qv_in5 (List.mem_of_getElem? (i := 186) rfl), rfl, by decide, qv_d163_0⟩
set_option maxRecDepth 100000 in
theorem qv_m164 : qv_M qx_e164 := ⟨by decide +kernel, qv_in5 (List.mem_of_getElem? (i := 191) rfl), rfl, by decide, qv_d164_0⟩
set_option maxRecDepth 100000 in
theorem qv_m165 : qv_M qx_e165 := ⟨by decide +kernel, qv_in5 (List.mem_of_getElem? (i := 196) rfl), rfl, by decide, qv_d165_0⟩
set_option maxRecDepth 100000 in
theorem qv_m166 : qv_M qx_e166 := ⟨by decide +kernel, qv_in5 (List.mem_of_getElem? (i := 200) rfl), rfl, by decide, qv_d166_0⟩
set_option maxRecDepth 100000 in
theorem qv_m167 : qv_M qx_e167 := ⟨by decide +kernel, qv_in5 (List.mem_of_getElem? (i := 205) rfl), rfl, by decide, qv_d167_0⟩
set_option maxRecDepth 100000 in
theorem qv_m168 : qv_M qx_e168 := ⟨by decide +kernel, qv_in5 (List.mem_of_getElem? (i := 209) rfl), rfl, by decide, qv_d168_0⟩
set_option maxRecDepth 100000 in
theorem qv_m169 : qv_M qx_e169 := ⟨by decide +kernel, qv_in5 (List.mem_of_getElem? (i := 212) rfl), rfl, by decide, qv_d169_0⟩
set_option maxRecDepth 100000 in
theorem qv_m170 : qv_M qx_e170 := ⟨by decide +kernel, qv_in5 (List.mem_of_getElem? (i := 216) rfl), rfl, by decide, qv_d170_0⟩
set_option maxRecDepth 100000 in
theorem qv_m171 : qv_M qx_e171 := ⟨by decide +kernel, qv_in5 (List.mem_of_getElem? (i := 221) rfl), rfl, by decide, qv_d171_0⟩
set_option maxRecDepth 100000 in
theorem qv_m172 : qv_M qx_e172 := ⟨by decide +kernel, qv_in6 (List.mem_of_getElem? (i := 178) rfl), rfl, by decide, qv_d172_0⟩
set_option maxRecDepth 100000 in
theorem qv_m173 : qv_M qx_e173 := ⟨by decide +kernel, qv_in6 (List.mem_of_getElem? (i := 182) rfl), rfl, by decide, qv_d173_0⟩
set_option maxRecDepth 100000 in
theorem qv_m174 : qv_M qx_e174 := ⟨by decide +kernel, qv_in6 (List.mem_of_getElem? (i := 186) rfl), rfl, by decide, qv_d174_0⟩
set_option maxRecDepth 100000 in
theorem qv_m175 : qv_M qx_e175 := ⟨by decide +kernel, qv_in6 (List.mem_of_getElem? (i := 190) rfl), rfl, by decide, qv_d175_0⟩
set_option maxRecDepth 100000 in
theorem qv_m176 : qv_M qx_e176 := ⟨by decide +kernel, qv_in6 (List.mem_of_getElem? (i := 193) rfl), rfl, by decide, qv_d176_0⟩
set_option maxRecDepth 100000 in
theorem qv_m177 : qv_M qx_e177 := ⟨by decide +kernel, qv_in6 (List.mem_of_getElem? (i := 198) rfl), rfl, by decide, qv_d177_0⟩
set_option maxRecDepth 100000 in
theorem qv_m178 : qv_M qx_e178 := ⟨by decide +kernel, qv_in6 (List.mem_of_getElem? (i := 201) rfl), rfl, by decide, qv_d178_0⟩
set_option maxRecDepth 100000 in
theorem qv_m179 : qv_M qx_e179 := ⟨by decide +kernel, qv_in6 (List.mem_of_getElem? (i := 208) rfl), rfl, by decide, qv_d179_0⟩
set_option maxRecDepth 100000 in
theorem qv_m180 : qv_M qx_e180 := ⟨by decide +kernel, qv_in6 (List.mem_of_getElem? (i := 212) rfl), rfl, by decide, qv_d180_0⟩
set_option maxRecDepth 100000 in
theorem qv_m181 : qv_M qx_e181 := ⟨by decide +kernel, qv_in6 (List.mem_of_getElem? (i := 216) rfl), rfl, by decide, qv_d181_0⟩
set_option maxRecDepth 100000 in
theorem qv_m182 : qv_M qx_e182 := ⟨by decide +kernel, qv_in6 (List.mem_of_getElem? (i := 220) rfl), rfl, by decide, qv_d182_0⟩
set_option maxRecDepth 100000 in
theorem qv_m183 : qv_M qx_e183 := ⟨by decide +kernel, qv_in6 (List.mem_of_getElem? (i := 224) rfl), rfl, by decide, qv_d183_0⟩
set_option maxRecDepth 100000 in
theorem qv_m184 : qv_M qx_e184 := ⟨by decide +kernel, qv_in6 (List.mem_of_getElem? (i := 228) rfl), rfl, by decide, qv_d184_0⟩
set_option maxRecDepth 100000 in
theorem qv_m185 : qv_M qx_e185 := ⟨by decide +kernel, qv_in6 (List.mem_of_getElem? (i := 232) rfl), rfl, by decide, qv_d185_0⟩
set_option maxRecDepth 100000 in
theorem qv_m186 : qv_M qx_e186 := ⟨by decide +kernel, qv_in6 (List.mem_of_getElem? (i := 236) rfl), rfl, by decide, qv_d186_0⟩
set_option maxRecDepth 100000 in
theorem qv_m187 : qv_M qx_e187 := ⟨by decide +kernel, qv_in7 (List.mem_of_getElem? (i := 0) rfl), rfl, by decide, qv_d187_0⟩
set_option maxRecDepth 100000 in
theorem qv_m188 : qv_M qx_e188 := ⟨by decide +kernel, qv_in7 (List.mem_of_getElem? (i := 4) rfl), rfl, by decide, qv_d188_0⟩
set_option maxRecDepth 100000 in
theorem qv_m189 : qv_M qx_e189 := ⟨by decide +kernel, qv_in7 (List.mem_of_getElem? (i := 8) rfl), rfl, by decide, qv_d189_0⟩
set_option maxRecDepth 100000 in
theorem qv_m190 : qv_M qx_e190 := ⟨by decide +kernel, qv_in7 (List.mem_of_getElem? (i := 12) rfl), rfl, by decide, qv_d190_0⟩
set_option maxRecDepth 100000 in
theorem qv_m191 : qv_M qx_e191 := ⟨by decide +kernel, qv_in7 (List.mem_of_getElem? (i := 16) rfl), rfl, by decide, qv_d191_0⟩
set_option maxRecDepth 100000 in
theorem qv_m192 : qv_M qx_e192 := ⟨by decide +kernel, qv_in7 (List.mem_of_getElem? (i := 19) rfl), rfl, by decide, qv_d192_0⟩
set_option maxRecDepth 100000 in
theorem qv_m193 : qv_M qx_e193 := ⟨by decide +kernel, qv_in7 (List.mem_of_getElem? (i := 25) rfl), rfl, by decide, qv_d193_0⟩
set_option maxRecDepth 100000 in
theorem qv_m194 : qv_M qx_e194 := ⟨by decide +kernel, qv_in7 (List.mem_of_getElem? (i := 30) rfl), rfl, by decide, qv_d194_0⟩
set_option maxRecDepth 100000 in
theorem qv_m195 : qv_M qx_e195 := ⟨by decide +kernel, qv_in7 (List.mem_of_getElem? (i := 34) rfl), rfl, by decide, qv_d195_0⟩
set_option maxRecDepth 100000 in
theorem qv_m196 : qv_M qx_e196 := ⟨by decide +kernel, qv_in7 (List.mem_of_getElem? (i := 38) rfl), rfl, by decide, qv_d196_0⟩
set_option maxRecDepth 100000 in
theorem qv_m197 : qv_M qx_e197 := ⟨by decide +kernel, qv_in7 (List.mem_of_getElem? (i := 42) rfl), rfl, by decide, qv_d197_0⟩
set_option maxRecDepth 100000 in
theorem qv_m198 : qv_M qx_e198 := ⟨by decide +kernel, qv_in7 (List.mem_of_getElem? (i := 46) rfl), rfl, by decide, qv_d198_0⟩
set_option maxRecDepth 100000 in
theorem qv_m199 : qv_M qx_e199 := ⟨by decide +kernel, qv_in7 (List.mem_of_getElem? (i := 53) rfl), rfl, by decide, qv_d199_0⟩
set_option maxRecDepth 100000 in
theorem qv_m200 : qv_M qx_e200 := ⟨by decide +kernel, qv_in7 (List.mem_of_getElem? (i := 57) rfl), rfl, by decide, qv_d200_0⟩
set_option maxRecDepth 100000 in
theorem qv_m201 : qv_M qx_e201 := ⟨by decide +kernel, qv_in7 (List.mem_of_getElem? (i := 61) rfl), rfl, by decide, qv_d201_0⟩
set_option maxRecDepth 100000 in
theorem qv_m202 : qv_M qx_e202 := ⟨by decide +kernel, qv_in7 (List.mem_of_getElem? (i := 65) rfl), rfl, by decide, qv_d202_0⟩
set_option maxRecDepth 100000 in
theorem qv_m203 : qv_M qx_e203 := ⟨by decide +kernel, qv_in7 (List.mem_of_getElem? (i := 69) rfl), rfl, by decide, qv_d203_0⟩
set_option maxRecDepth 100000 in
theorem qv_m204 : qv_M qx_e204 := ⟨by decide +kernel, qv_in7 (List.mem_of_getElem? (i := 73) rfl), rfl, by decide, qv_d204_0⟩
set_option maxRecDepth 100000 in
theorem qv_m205 : qv_M qx_e205 := ⟨by decide +kernel, qv_in7 (List.mem_of_getElem? (i := 77) rfl), rfl, by decide, qv_d205_0⟩
set_option maxRecDepth 100000 in
theorem qv_m206 : qv_M qx_e206 := ⟨by decide +kernel, qv_in7 (List.mem_of_getElem? (i := 81) rfl), rfl, by decide, qv_d206_0⟩
set_option maxRecDepth 100000 in
theorem qv_m207 : qv_M qx_e207 := ⟨by decide +kernel, qv_in7 (List.mem_of_getElem? (i := 85) rfl), rfl, by decide, qv_d207_0⟩
set_option maxRecDepth 100000 in
theorem qv_m208 : qv_M qx_e208 := ⟨by decide +kernel, qv_in7 (List.mem_of_getElem? (i := 89) rfl), rfl, by decide, qv_d208_0⟩
set_option maxRecDepth 100000 in
theorem qv_m209 : qv_M qx_e209 := ⟨by decide +kernel, qv_in7 (List.mem_of_getElem? (i := 93) rfl), rfl, by decide, qv_d209_0⟩
set_option maxRecDepth 100000 in
theorem qv_m210 : qv_M qx_e210 := ⟨by decide +kernel, qv_in7 (List.mem_of_getElem? (i := 97) rfl), rfl, by decide, qv_d210_0⟩
set_option maxRecDepth 100000 in
theorem qv_m211 : qv_M qx_e211 := ⟨by decide +kernel, qv_in7 (List.mem_of_getElem? (i := 101) rfl), rfl, by decide, qv_d211_0⟩
set_option maxRecDepth 100000 in
theorem qv_m212 : qv_M qx_e212 := ⟨by decide +kernel, qv_in7 (List.mem_of_getElem? (i := 106) rfl), rfl, by decide, qv_d212_0⟩
set_option maxRecDepth 100000 in
theorem qv_m213 : qv_M qx_e213 := ⟨by decide +kernel, qv_in7 (List.mem_of_getElem? (i := 110) rfl), rfl, by decide, qv_d213_0⟩
set_option maxRecDepth 100000 in
theorem qv_m214 : qv_M qx_e214 := ⟨by decide +kernel, qv_in7 (List.mem_of_getElem? (i := 114) rfl), rfl, by decide, qv_d214_0⟩
set_option maxRecDepth 100000 in
theorem qv_m215 : qv_M qx_e215 := ⟨by decide +kernel, qv_in7 (List.mem_of_getElem? (i := 118) rfl), rfl, by decide, qv_d215_0⟩
set_option maxRecDepth 100000 in
theorem qv_m216 : qv_M qx_e216 := ⟨by decide +kernel, qv_in7 (List.mem_of_getElem? (i := 122) rfl), rfl, by decide, qv_d216_0⟩
set_option maxRecDepth 100000 in
theorem qv_m217 : qv_M qx_e217 := ⟨by decide +kernel, qv_in7 (List.mem_of_getElem? (i := 126) rfl), rfl, by decide, qv_d217_0⟩
set_option maxRecDepth 100000 in
theorem qv_m218 : qv_M qx_e218 := ⟨by decide +kernel, qv_in7 (List.mem_of_getElem? (i := 130) rfl), rfl, by decide, qv_d218_0⟩
set_option maxRecDepth 100000 in
theorem qv_m219 : qv_M qx_e219 := ⟨by decide +kernel, qv_in7 (List.mem_of_getElem? (i := 134) rfl), rfl, by decide, qv_d219_0⟩
set_option maxRecDepth 100000 in
theorem qv_m220 : qv_M qx_e220 := ⟨by decide +kernel, qv_in7 (List.mem_of_getElem? (i := 138) rfl), rfl, by decide, qv_d220_0⟩
set_option maxRecDepth 100000 in
theorem qv_m221 : qv_M qx_e221 := ⟨by decide +kernel, qv_in7 (List.mem_of_getElem? (i := 142) rfl), rfl, by decide, qv_d221_0⟩
set_option maxRecDepth 100000 in
theorem qv_m222 : qv_M qx_e222 := ⟨by decide +kernel, qv_in7 (List.mem_of_getElem? (i := 146) rfl), rfl, by decide, qv_d222_0⟩
set_option maxRecDepth 100000 in
theorem qv_m223 : qv_M qx_e223 := ⟨by decide +kernel, qv_in7 (List.mem_of_getElem? (i := 149) rfl), rfl, by decide, qv_d223_0⟩
set_option maxRecDepth 100000 in
theorem qv_m224 : qv_M qx_e224 := ⟨by decide +kernel, qv_in7 (List.mem_of_getElem? (i := 153) rfl), rfl, by decide, qv_d224_0⟩
set_option maxRecDepth 100000 in
theorem qv_m225 : qv_M qx_e225 := ⟨by decide +kernel, qv_in7 (List.mem_of_getElem? (i := 157) rfl), rfl, by decide, qv_d225_0⟩
set_option maxRecDepth 100000 in
theorem qv_m226 : qv_M qx_e226 := ⟨by decide +kernel, qv_in7 (List.mem_of_getElem? (i := 161) rfl), rfl, by decide, qv_d226_0⟩
set_option maxRecDepth 100000 in
theorem qv_m227 : qv_M qx_e227 := ⟨by decide +kernel, qv_in7 (List.mem_of_getElem? (i := 165) rfl), rfl, by decide, qv_d227_0⟩
set_option maxRecDepth 100000 in
theorem qv_m228 : qv_M qx_e228 := ⟨by decide +kernel, qv_in7 (List.mem_of_getElem? (i := 169) rfl), rfl, by decide, qv_d228_0⟩
set_option maxRecDepth 100000 in
theorem qv_m229 : qv_M qx_e229 := ⟨by decide +kernel, qv_in7 (List.mem_of_getElem? (i := 173) rfl), rfl, by decide, qv_d229_0⟩
set_option maxRecDepth 100000 in
theorem qv_m230 : qv_M qx_e230 := ⟨by decide +kernel, qv_in7 (List.mem_of_getElem? (i := 176) rfl), rfl, by decide, qv_d230_0⟩
set_option maxRecDepth 100000 in
theorem qv_m231 : qv_M qx_e231 := ⟨by decide +kernel, qv_in7 (List.mem_of_getElem? (i := 181) rfl), rfl, by decide, qv_d231_0⟩
set_option maxRecDepth 100000 in
theorem qv_m232 : qv_M qx_e232 := ⟨by decide +kernel, qv_in7 (List.mem_of_getElem? (i := 185) rfl), rfl, by decide, qv_d232_0⟩
set_option maxRecDepth 100000 in
theorem qv_m233 : qv_M qx_e233 := ⟨by decide +kernel, qv_in7 (List.mem_of_getElem? (i := 189) rfl), rfl, by decide, qv_d233_0⟩
set_option maxRecDepth 100000 in
theorem qv_m234 : qv_M qx_e234 := ⟨by decide +kernel, qv_in7 (List.mem_of_getElem? (i := 193) rfl), rfl, by decide, qv_d234_0⟩
set_option maxRecDepth 100000 in
theorem qv_m235 : qv_M qx_e235 := ⟨by decide +kernel, qv_in7 (List.mem_of_getElem? (i := 197) rfl), rfl, by decide, qv_d235_0⟩
set_option maxRecDepth 100000 in
theorem qv_m236 : qv_M qx_e236 := ⟨by decide +kernel, qv_in7 (List.mem_of_getElem? (i := 200) rfl), rfl, by decide, qv_d236_0⟩
set_option maxRecDepth 100000 in
theorem qv_m237 : qv_M qx_e237 := ⟨by decide +kernel, qv_in7 (List.mem_of_getElem? (i := 205) rfl), rfl, by decide, qv_d237_0⟩
set_option maxRecDepth 100000 in
theorem qv_m238 : qv_M qx_e238 := ⟨by decide +kernel, qv_in7 (List.mem_of_getElem? (i := 209) rfl), rfl, by decide, qv_d238_0⟩
set_option maxRecDepth 100000 in
theorem qv_m239 : qv_M qx_e239 := ⟨by decide +kernel, qv_in7 (List.mem_of_getElem? (i := 213) rfl), rfl, by decide, qv_d239_0⟩
set_option maxRecDepth 100000 in
theorem qv_m240 : qv_M qx_e240 := ⟨by decide +kernel, qv_in7 (List.mem_of_getElem? (i := 217) rfl), rfl, by decide, qv_d240_0⟩
set_option maxRecDepth 100000 in
theorem qv_m241 : qv_M qx_e241 := ⟨by decide +kernel, qv_in7 (List.mem_of_getElem? (i := 221) rfl), rfl, by decide, qv_d241_0⟩
set_option maxRecDepth 100000 in
theorem qv_m242 : qv_M qx_e242 := ⟨by decide +kernel, qv_in7 (List.mem_of_getElem? (i := 226) rfl), rfl, by decide, qv_d242_0⟩
set_option maxRecDepth 100000 in
theorem qv_m243 : qv_M qx_e243 := ⟨by decide +kernel, qv_in7 (List.mem_of_getElem? (i := 232) rfl), rfl, by decide, qv_d243_0⟩
set_option maxRecDepth 100000 in
theorem qv_m244 : qv_M qx_e244 := ⟨by decide +kernel, qv_in7 (List.mem_of_getElem? (i := 236) rfl), rfl, by decide, qv_d244_0⟩
set_option maxRecDepth 100000 in
theorem qv_m245 : qv_M qx_e245 := ⟨by decide +kernel, qv_in8 (List.mem_of_getElem? (i := 0) rfl), rfl, by decide, qv_d245_0⟩
set_option maxRecDepth 100000 in
theorem qv_m246 : qv_M qx_e246 := ⟨by decide +kernel, qv_in8 (List.mem_of_getElem? (i := 4) rfl), rfl, by decide, qv_d246_0⟩
set_option maxRecDepth 100000 in
theorem qv_m247 : qv_M qx_e247 := ⟨by decide +kernel, qv_in8 (List.mem_of_getElem? (i := 8) rfl), rfl, by decide, qv_d247_0⟩
set_option maxRecDepth 100000 in
theorem qv_m248 : qv_M qx_e248 := ⟨by decide +kernel, qv_in8 (List.mem_of_getElem? (i := 12) rfl), rfl, by decide, qv_d248_0⟩
set_option maxRecDepth 100000 in
theorem qv_m249 : qv_M qx_e249 := ⟨by decide +kernel, qv_in8 (List.mem_of_getElem? (i := 16) rfl), rfl, by decide, qv_d249_0⟩
set_option maxRecDepth 100000 in
theorem qv_m250 : qv_M qx_e250 := ⟨by decide +kernel, qv_in8 (List.mem_of_getElem? (i := 20) rfl), rfl, by decide, qv_d250_0⟩
set_option maxRecDepth 100000 in
theorem qv_m251 : qv_M qx_e251 := ⟨by decide +kernel, qv_in8 (List.mem_of_getElem? (i := 24) rfl), rfl, by decide, qv_d251_0⟩
set_option maxRecDepth 100000 in
theorem qv_m252 : qv_M qx_e252 := ⟨by decide +kernel, qv_in8 (List.mem_of_getElem? (i := 28) rfl), rfl, by decide, qv_d252_0⟩
set_option maxRecDepth 100000 in
theorem qv_m253 : qv_M qx_e253 := ⟨by decide +kernel, qv_in8 (List.mem_of_getElem? (i := 31) rfl), rfl, by decide, qv_d253_0⟩
set_option maxRecDepth 100000 in
theorem qv_m254 : qv_M qx_e254 := ⟨by decide +kernel, qv_in8 (List.mem_of_getElem? (i := 35) rfl), rfl, by decide, qv_d254_0⟩
set_option maxRecDepth 100000 in
theorem qv_m255 : qv_M qx_e255 := ⟨by decide +kernel, qv_in8 (List.mem_of_getElem? (i := 39) rfl), rfl, by decide, qv_d255_0⟩
set_option maxRecDepth 100000 in
theorem qv_m256 : qv_M qx_e256 := ⟨by decide +kernel, qv_in8 (List.mem_of_getElem? (i := 43) rfl), rfl, by decide, qv_d256_0⟩
set_option maxRecDepth 100000 in
theorem qv_m257 : qv_M qx_e257 := ⟨by decide +kernel, qv_in8 (List.mem_of_getElem? (i := 47) rfl), rfl, by decide, qv_d257_0⟩
set_option maxRecDepth 100000 in
theorem qv_m258 : qv_M qx_e258 := ⟨by decide +kernel, qv_in8 (List.mem_of_getElem? (i := 51) rfl), rfl, by decide, qv_d258_0⟩
set_option maxRecDepth 100000 in
theorem qv_m259 : qv_M qx_e259 := ⟨by decide +kernel, qv_in8 (List.mem_of_getElem? (i := 55) rfl), rfl, by decide, qv_d259_0⟩
set_option maxRecDepth 100000 in
theorem qv_m260 : qv_M qx_e260 := ⟨by decide +kernel, qv_in8 (List.mem_of_getElem? (i := 59) rfl), rfl, by decide, qv_d260_0⟩
set_option maxRecDepth 100000 in
theorem qv_m261 : qv_M qx_e261 := ⟨by decide +kernel, qv_in8 (List.mem_of_getElem? (i := 63) rfl), rfl, by decide, qv_d261_0⟩
set_option maxRecDepth 100000 in
theorem qv_m262 : qv_M qx_e262 := ⟨by decide +kernel, qv_in8 (List.mem_of_getElem? (i := 67) rfl), rfl, by decide, qv_d262_0⟩
set_option maxRecDepth 100000 in
theorem qv_m263 : qv_M qx_e263 := ⟨by decide +kernel, qv_in8 (List.mem_of_getElem? (i := 71) rfl), rfl, by decide, qv_d263_0⟩
set_option maxRecDepth 100000 in
theorem qv_m264 : qv_M qx_e264 := ⟨by decide +kernel, qv_in8 (List.mem_of_getElem? (i := 75) rfl), rfl, by decide, qv_d264_0⟩
set_option maxRecDepth 100000 in
theorem qv_m265 : qv_M qx_e265 := ⟨by decide +kernel, qv_in8 (List.mem_of_getElem? (i := 79) rfl), rfl, by decide, qv_d265_0⟩
set_option maxRecDepth 100000 in
theorem qv_m266 : qv_M qx_e266 := ⟨by decide +kernel, qv_in8 (List.mem_of_getElem? (i := 82) rfl), rfl, by decide, qv_d266_0⟩
set_option maxRecDepth 100000 in
theorem qv_m267 : qv_M qx_e267 := ⟨by decide +kernel, qv_in8 (List.mem_of_getElem? (i := 86) rfl), rfl, by decide, qv_d267_0⟩
set_option maxRecDepth 100000 in
theorem qv_m268 : qv_M qx_e268 := ⟨by decide +kernel, qv_in8 (List.mem_of_getElem? (i := 91) rfl), rfl, by decide, qv_d268_0⟩
set_option maxRecDepth 100000 in
theorem qv_m269 : qv_M qx_e269 := ⟨by decide +kernel, qv_in8 (List.mem_of_getElem? (i := 95) rfl), rfl, by decide, qv_d269_0⟩
set_option maxRecDepth 100000 in
theorem qv_m270 : qv_M qx_e270 := ⟨by decide +kernel, qv_in8 (List.mem_of_getElem? (i := 99) rfl), rfl, by decide, qv_d270_0⟩
set_option maxRecDepth 100000 in
theorem qv_m271 : qv_M qx_e271 := ⟨by decide +kernel, qv_in8 (List.mem_of_getElem? (i := 103) rfl), rfl, by decide, qv_d271_0⟩
theorem qv_mt0 : ∀ x ∈ qx_mt0.tail, qv_M x := List.forall_mem_cons.mpr ⟨qv_m1, List.forall_mem_cons.mpr ⟨qv_m2, List.forall_mem_cons.mpr ⟨qv_m3, List.forall_mem_cons.mpr ⟨qv_m4, List.forall_mem_cons.mpr ⟨qv_m5, List.forall_mem_cons.mpr ⟨qv_m6, List.forall_mem_cons.mpr ⟨qv_m7, List.forall_mem_cons.mpr ⟨qv_m8, List.forall_mem_cons.mpr ⟨qv_m9, List.forall_mem_cons.mpr ⟨qv_m10, List.forall_mem_cons.mpr ⟨qv_m11, List.forall_mem_cons.mpr ⟨qv_m12, List.forall_mem_cons.mpr ⟨qv_m13, List.forall_mem_cons.mpr ⟨qv_m14, List.forall_mem_cons.mpr ⟨qv_m15, List.forall_mem_cons.mpr ⟨qv_m16, List.forall_mem_cons.mpr ⟨qv_m17, List.forall_mem_cons.mpr ⟨qv_m18, List.forall_mem_cons.mpr ⟨qv_m19, List.forall_mem_cons.mpr ⟨qv_m20, List.forall_mem_cons.mpr ⟨qv_m21, List.forall_mem_cons.mpr ⟨qv_m22, List.forall_mem_cons.mpr ⟨qv_m23, List.forall_mem_cons.mpr ⟨qv_m24, List.forall_mem_cons.mpr ⟨qv_m25, List.forall_mem_cons.mpr ⟨qv_m26, List.forall_mem_cons.mpr ⟨qv_m27, List.forall_mem_cons.mpr ⟨qv_m28, List.forall_mem_cons.mpr ⟨qv_m29, List.forall_mem_cons.mpr ⟨qv_m30, List.forall_mem_cons.mpr ⟨qv_m31, List.forall_mem_cons.mpr ⟨qv_m32, List.forall_mem_cons.mpr ⟨qv_m33, List.forall_mem_cons.mpr ⟨qv_m34, List.forall_mem_cons.mpr ⟨qv_m35, List.forall_mem_cons.mpr ⟨qv_m36, List.forall_mem_cons.mpr ⟨qv_m37, List.forall_mem_cons.mpr ⟨qv_m38, List.forall_mem_cons.mpr ⟨qv_m39, fun _ h => absurd h List.not_mem_nil⟩⟩⟩⟩⟩⟩⟩⟩⟩⟩⟩⟩⟩⟩⟩⟩⟩⟩⟩⟩⟩⟩⟩⟩⟩⟩⟩⟩⟩⟩⟩⟩⟩⟩⟩⟩⟩⟩⟩
theorem qv_mt1 : ∀ x ∈ qx_mt1, qv_M x := List.forall_mem_cons.mpr ⟨qv_m40, List.forall_mem_cons.mpr ⟨qv_m41, List.forall_mem_cons.mpr ⟨qv_m42, List.forall_mem_cons.mpr ⟨qv_m43, List.forall_mem_cons.mpr ⟨qv_m44, List.forall_mem_cons.mpr ⟨qv_m45, List.forall_mem_cons.mpr ⟨qv_m46, List.forall_mem_cons.mpr ⟨qv_m47, List.forall_mem_cons.mpr ⟨qv_m48, List.forall_mem_cons.mpr ⟨qv_m49, List.forall_mem_cons.mpr ⟨qv_m50, List.forall_mem_cons.mpr ⟨qv_m51, List.forall_mem_cons.mpr ⟨qv_m52, List.forall_mem_cons.mpr ⟨qv_m53, List.forall_mem_cons.mpr ⟨qv_m54, List.forall_mem_cons.mpr ⟨qv_m55, List.forall_mem_cons.mpr ⟨qv_m56, List.forall_mem_cons.mpr ⟨qv_m57, List.forall_mem_cons.mpr ⟨qv_m58, List.forall_mem_cons.mpr ⟨qv_m59, List.forall_mem_cons.mpr ⟨qv_m60, List.forall_mem_cons.mpr ⟨qv_m61, List.forall_mem_cons.mpr ⟨qv_m62, List.forall_mem_cons.mpr ⟨qv_m63, List.forall_mem_cons.mpr ⟨qv_m64, List.forall_mem_cons.mpr ⟨qv_m65, List.forall_mem_cons.mpr ⟨qv_m66, List.forall_mem_cons.mpr ⟨qv_m67, List.forall_mem_cons.mpr ⟨qv_m68, List.forall_mem_cons.mpr ⟨qv_m69, List.forall_mem_cons.mpr ⟨qv_m70, List.forall_mem_cons.mpr ⟨qv_m71, List.forall_mem_cons.mpr ⟨qv_m72, List.forall_mem_cons.mpr ⟨qv_m73, List.forall_mem_cons.mpr ⟨qv_m74, List.forall_mem_cons.mpr ⟨qv_m75, List.forall_mem_cons.mpr ⟨qv_m76, List.forall_mem_cons.mpr ⟨qv_m77, List.forall_mem_cons.mpr ⟨qv_m78, List.forall_mem_cons.mpr ⟨qv_m79, fun _ h => absurd h List.not_mem_nil⟩⟩⟩⟩⟩⟩⟩⟩⟩⟩⟩⟩⟩⟩⟩⟩⟩⟩⟩⟩⟩⟩⟩⟩⟩⟩⟩⟩⟩⟩⟩⟩⟩⟩⟩⟩⟩⟩⟩⟩
theorem qv_mt2 : ∀ x ∈ qx_mt2, qv_M x := List.forall_mem_cons.mpr ⟨qv_m80, List.forall_mem_cons.mpr ⟨qv_m81, List.forall_mem_cons.mpr ⟨qv_m82, List.forall_mem_cons.mpr ⟨qv_m83, List.forall_mem_cons.mpr ⟨qv_m84, List.forall_mem_cons.mpr ⟨qv_m85, List.forall_mem_cons.mpr ⟨qv_m86, List.forall_mem_cons.mpr ⟨qv_m87, List.forall_mem_cons.mpr ⟨qv_m88, List.forall_mem_cons.mpr ⟨qv_m89, List.forall_mem_cons.mpr ⟨qv_m90, List.forall_mem_cons.mpr ⟨qv_m91, List.forall_mem_cons.mpr ⟨qv_m92, List.forall_mem_cons.mpr ⟨qv_m93, List.forall_mem_cons.mpr ⟨qv_m94, List.forall_mem_cons.mpr ⟨qv_m95, List.forall_mem_cons.mpr ⟨qv_m96, List.forall_mem_cons.mpr ⟨qv_m97, List.forall_mem_cons.mpr ⟨qv_m98, List.forall_mem_cons.mpr ⟨qv_m99, List.forall_mem_cons.mpr ⟨qv_m100, List.forall_mem_cons.mpr ⟨qv_m101, List.forall_mem_cons.mpr ⟨qv_m102, List.forall_mem_cons.mpr ⟨qv_m103, List.forall_mem_cons.mpr ⟨qv_m104, List.forall_mem_cons.mpr ⟨qv_m105, List.forall_mem_cons.mpr ⟨qv_m106, List.forall_mem_cons.mpr ⟨qv_m107, List.forall_mem_cons.mpr ⟨qv_m108, List.forall_mem_cons.mpr ⟨qv_m109, List.forall_mem_cons.mpr ⟨qv_m110, List.forall_mem_cons.mpr ⟨qv_m111, List.forall_mem_cons.mpr ⟨qv_m112, List.forall_mem_cons.mpr ⟨qv_m113, List.forall_mem_cons.mpr ⟨qv_m114, List.forall_mem_cons.mpr ⟨qv_m115, List.forall_mem_cons.mpr ⟨qv_m116, List.forall_mem_cons.mpr ⟨qv_m117, List.forall_mem_cons.mpr ⟨qv_m118, List.forall_mem_cons.mpr ⟨qv_m119, fun _ h => absurd h List.not_mem_nil⟩⟩⟩⟩⟩⟩⟩⟩⟩⟩⟩⟩⟩⟩⟩⟩⟩⟩⟩⟩⟩⟩⟩⟩⟩⟩⟩⟩⟩⟩⟩⟩⟩⟩⟩⟩⟩⟩⟩⟩
theorem qv_mt3 : ∀ x ∈ qx_mt3, qv_M x := List.forall_mem_cons.mpr ⟨qv_m120, List.forall_mem_cons.mpr ⟨qv_m121, List.forall_mem_cons.mpr ⟨qv_m122, List.forall_mem_cons.mpr ⟨qv_m123, List.forall_mem_cons.mpr ⟨qv_m124, List.forall_mem_cons.mpr ⟨qv_m125, List.forall_mem_cons.mpr ⟨qv_m126, List.forall_mem_cons.mpr ⟨qv_m127, List.forall_mem_cons.mpr ⟨qv_m128, List.forall_mem_cons.mpr ⟨qv_m129, List.forall_mem_cons.mpr ⟨qv_m130, List.forall_mem_cons.mpr ⟨qv_m131, List.forall_mem_cons.mpr ⟨qv_m132, List.forall_mem_cons.mpr ⟨qv_m133, List.forall_mem_cons.mpr ⟨qv_m134, List.forall_mem_cons.mpr ⟨qv_m135, List.forall_mem_cons.mpr ⟨qv_m136, List.forall_mem_cons.mpr ⟨qv_m137, List.forall_mem_cons.mpr ⟨qv_m138, List.forall_mem_cons.mpr ⟨qv_m139, List.forall_mem_cons.mpr ⟨qv_m140, List.forall_mem_cons.mpr ⟨qv_m141, List.forall_mem_cons.mpr ⟨qv_m142, List.forall_mem_cons.mpr ⟨qv_m143, List.forall_mem_cons.mpr ⟨qv_m144, List.forall_mem_cons.mpr ⟨qv_m145, List.forall_mem_cons.mpr ⟨qv_m146, List.forall_mem_cons.mpr ⟨qv_m147, List.forall_mem_cons.mpr ⟨qv_m148, List.forall_mem_cons.mpr ⟨qv_m149, List.forall_mem_cons.mpr ⟨qv_m150, List.forall_mem_cons.mpr ⟨qv_m151, List.forall_mem_cons.mpr ⟨qv_m152, List.forall_mem_cons.mpr ⟨qv_m153, List.forall_mem_cons.mpr ⟨qv_m154, List.forall_mem_cons.mpr ⟨qv_m155, List.forall_mem_cons.mpr ⟨qv_m156, List.forall_mem_cons.mpr ⟨qv_m157, List.forall_mem_cons.mpr ⟨qv_m158, List.forall_mem_cons.mpr ⟨qv_m159, fun _ h => absurd h List.not_mem_nil⟩⟩⟩⟩⟩⟩⟩⟩⟩⟩⟩⟩⟩⟩⟩⟩⟩⟩⟩⟩⟩⟩⟩⟩⟩⟩⟩⟩⟩⟩⟩⟩⟩⟩⟩⟩⟩⟩⟩⟩
theorem qv_mt4 : ∀ x ∈ qx_mt4, qv_M x := List.forall_mem_cons.mpr ⟨qv_m160, List.forall_mem_cons.mpr ⟨qv_m161, List.forall_mem_cons.mpr ⟨qv_m162, List.forall_mem_cons.mpr ⟨qv_m163, List.forall_mem_cons.mpr ⟨qv_m164, List.forall_mem_cons.mpr ⟨qv_m165, List.forall_mem_cons.mpr ⟨qv_m166, List.forall_mem_cons.mpr ⟨qv_m167, List.forall_mem_cons.mpr ⟨qv_m168, List.forall_mem_cons.mpr ⟨qv_m169, List.forall_mem_cons.mpr ⟨qv_m170, List.forall_mem_cons.mpr ⟨qv_m171, List.forall_mem_cons.mpr ⟨qv_m172, List.forall_mem_cons.mpr ⟨qv_m173, List.forall_mem_cons.mpr ⟨qv_m174, List.forall_mem_cons.mpr ⟨qv_m175, List.forall_mem_cons.mpr ⟨qv_m176, List.forall_mem_cons.mpr ⟨qv_m177, List.forall_mem_cons.mpr ⟨qv_m178, List.forall_mem_cons.mpr ⟨qv_m179, List.forall_mem_cons.mpr ⟨qv_m180, List.forall_mem_cons.mpr ⟨qv_m181, List.forall_mem_cons.mpr ⟨qv_m182, List.forall_mem_cons.mpr ⟨qv_m183, List.forall_mem_cons.mpr ⟨qv_m184, List.forall_mem_cons.mpr ⟨qv_m185, List.forall_mem_cons.mpr ⟨qv_m186, List.forall_mem_cons.mpr ⟨qv_m187, List.forall_mem_cons.mpr ⟨qv_m188, List.forall_mem_cons.mpr ⟨qv_m189, List.forall_mem_cons.mpr ⟨qv_m190, List.forall_mem_cons.mpr ⟨qv_m191, List.forall_mem_cons.mpr ⟨qv_m192, List.forall_mem_cons.mpr ⟨qv_m193, List.forall_mem_cons.mpr ⟨qv_m194, List.forall_mem_cons.mpr ⟨qv_m195, List.forall_mem_cons.mpr ⟨qv_m196, List.forall_mem_cons.mpr ⟨qv_m197, List.forall_mem_cons.mpr ⟨qv_m198, List.forall_mem_cons.mpr ⟨qv_m199, fun _ h => absurd h List.not_mem_nil⟩⟩⟩⟩⟩⟩⟩⟩⟩⟩⟩⟩⟩⟩⟩⟩⟩⟩⟩⟩⟩⟩⟩⟩⟩⟩⟩⟩⟩⟩⟩⟩⟩⟩⟩⟩⟩⟩⟩⟩
theorem qv_mt5 : ∀ x ∈ qx_mt5, qv_M x := List.forall_mem_cons.mpr ⟨qv_m200, List.forall_mem_cons.mpr ⟨qv_m201, List.forall_mem_cons.mpr ⟨qv_m202, List.forall_mem_cons.mpr ⟨qv_m203, List.forall_mem_cons.mpr ⟨qv_m204, List.forall_mem_cons.mpr ⟨qv_m205, List.forall_mem_cons.mpr ⟨qv_m206, List.forall_mem_cons.mpr ⟨qv_m207, List.forall_mem_cons.mpr ⟨qv_m208, List.forall_mem_cons.mpr ⟨qv_m209, List.forall_mem_cons.mpr ⟨qv_m210, List.forall_mem_cons.mpr ⟨qv_m211, List.forall_mem_cons.mpr ⟨qv_m212, List.forall_mem_cons.mpr ⟨qv_m213, List.forall_mem_cons.mpr ⟨qv_m214, List.forall_mem_cons.mpr ⟨qv_m215, List.forall_mem_cons.mpr ⟨qv_m216, List.forall_mem_cons.mpr ⟨qv_m217, List.forall_mem_cons.mpr ⟨qv_m218, List.forall_mem_cons.mpr ⟨qv_m219, List.forall_mem_cons.mpr ⟨qv_m220, List.forall_mem_cons.mpr ⟨qv_m221, List.forall_mem_cons.mpr ⟨qv_m222, List.forall_mem_cons.mpr ⟨qv_m223, List.forall_mem_cons.mpr ⟨qv_m224, List.forall_mem_cons.mpr ⟨qv_m225, List.forall_mem_cons.mpr ⟨qv_m226, List.forall_mem_cons.mpr ⟨qv_m227, List.forall_mem_cons.mpr ⟨qv_m228, List.forall_mem_cons.mpr ⟨qv_m229, List.forall_mem_cons.mpr ⟨qv_m230, List.forall_mem_cons.mpr ⟨qv_m231, List.forall_mem_cons.mpr ⟨qv_m232, List.forall_mem_cons.mpr ⟨qv_m233, List.forall_mem_cons.mpr ⟨qv_m234, List.forall_mem_cons.mpr ⟨qv_m235, List.forall_mem_cons.mpr ⟨qv_m236, List.forall_mem_cons.mpr ⟨qv_m237, List.forall_mem_cons.mpr ⟨qv_m238, List.forall_mem_cons.mpr ⟨qv_m239, fun _ h => absurd h List.not_mem_nil⟩⟩⟩⟩⟩⟩⟩⟩⟩⟩⟩⟩⟩⟩⟩⟩⟩⟩⟩⟩⟩⟩⟩⟩⟩⟩⟩⟩⟩⟩⟩⟩⟩⟩⟩⟩⟩⟩⟩⟩
theorem qv_mt6 : ∀ x ∈ qx_mt6, qv_M x := List.forall_mem_cons.mpr ⟨qv_m240, List.forall_mem_cons.mpr ⟨qv_m241, List.forall_mem_cons.mpr ⟨qv_m242, List.forall_mem_cons.mpr ⟨qv_m243, List.forall_mem_cons.mpr ⟨qv_m244, List.forall_mem_cons.mpr ⟨qv_m245, List.forall_mem_cons.mpr ⟨qv_m246, List.forall_mem_cons.mpr ⟨qv_m247, List.forall_mem_cons.mpr ⟨qv_m248, List.forall_mem_cons.mpr ⟨qv_m249, List.forall_mem_cons.mpr ⟨qv_m250, List.forall_mem_cons.mpr ⟨qv_m251, List.forall_mem_cons.mpr ⟨qv_m252, List.forall_mem_cons.mpr ⟨qv_m253, List.forall_mem_cons.mpr ⟨qv_m254, List.forall_mem_cons.mpr ⟨qv_m255, List.forall_mem_cons.mpr ⟨qv_m256, List.forall_mem_cons.mpr ⟨qv_m257, List.forall_mem_cons.mpr ⟨qv_m258, List.forall_mem_cons.mpr ⟨qv_m259, List.forall_mem_cons.mpr ⟨qv_m260, List.forall_mem_cons.mpr ⟨qv_m261, List.forall_mem_cons.mpr ⟨qv_m262, List.forall_mem_cons.mpr ⟨qv_m263, List.forall_mem_cons.mpr ⟨qv_m264, List.forall_mem_cons.mpr ⟨qv_m265, List.forall_mem_cons.mpr ⟨qv_m266, List.forall_mem_cons.mpr ⟨qv_m267, List.forall_mem_cons.mpr ⟨qv_m268, List.forall_mem_cons.mpr ⟨qv_m269, List.forall_mem_cons.mpr ⟨qv_m270, List.forall_mem_cons.mpr ⟨qv_m271, fun _ h => absurd h List.not_mem_nil⟩⟩⟩⟩⟩⟩⟩⟩⟩⟩⟩⟩⟩⟩⟩⟩⟩⟩⟩⟩⟩⟩⟩⟩⟩⟩⟩⟩⟩⟩⟩⟩
theorem qv_all_m : ∀ x ∈ qx_mt0.tail ++ (qx_mt1 ++ (qx_mt2 ++ (qx_mt3 ++ (qx_mt4 ++ (qx_mt5 ++ (qx_mt6)))))), qv_M x := List.forall_mem_append.mpr ⟨qv_mt0, List.forall_mem_append.mpr ⟨qv_mt1, List.forall_mem_append.mpr ⟨qv_mt2, List.forall_mem_append.mpr ⟨qv_mt3, List.forall_mem_append.mpr ⟨qv_mt4, List.forall_mem_append.mpr ⟨qv_mt5, qv_mt6⟩⟩⟩⟩⟩⟩
theorem qv_mt : qx_mt.tail = qx_mt0.tail ++ (qx_mt1 ++ (qx_mt2 ++ (qx_mt3 ++ (qx_mt4 ++ (qx_mt5 ++ (qx_mt6)))))) := rfl
theorem qv_all : qs_all := by
  refine ⟨qv_cls, qv_words, fun k x hk he => ?_⟩
  refine qv_all_m x ?_
  rw [← qv_mt]
  unfold qm_ent at he
  have h : qx_mt.tail[k - 1]? = some x := by
    rw [List.getElem?_tail, Nat.sub_add_cancel hk]
    exact he
  exact List.mem_of_getElem? h
