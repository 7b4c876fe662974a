/-! printed: cells, fields, references -/
section PG
variable {h : Nat → Option jC} {b : Nat} {X : jXX} {I : Nat → Nat → Int32} {J : Nat → Nat → Int64} {R : Nat → Nat → Nat} {n k : Nat}
theorem g0 : (jH h b X I J R n).1 (b + 0) = some (10, 14, vf b 10 X I J R (0)) := H_fx (by decide +kernel) (by decide +kernel)
theorem g1 : (jH h b X I J R n).1 (b + 1) = some (22, 2000, vf b 22 X I J R (1)) := H_fx (by decide +kernel) (by decide +kernel)
theorem g2 : (jH h b X I J R n).1 (b + 2) = some (22, 12, vf b 22 X I J R (2)) := H_fx (by decide +kernel) (by decide +kernel)
theorem g3 : (jH h b X I J R n).1 (b + 3) = some (6, 7, vf b 6 X I J R (3)) := H_fx (by decide +kernel) (by decide +kernel)
theorem g4 : (jH h b X I J R n).1 (b + 4) = some (21, 26, vf b 21 X I J R (4)) := H_fx (by decide +kernel) (by decide +kernel)
theorem g5 : (jH h b X I J R n).1 (b + 5) = some (20, 2001, vf b 20 X I J R (5)) := H_fx (by decide +kernel) (by decide +kernel)
theorem g6 : (jH h b X I J R n).1 (b + 6) = some (20, 2001, vf b 20 X I J R (6)) := H_fx (by decide +kernel) (by decide +kernel)
theorem g7 : (jH h b X I J R n).1 (b + 7) = some (20, 2001, vf b 20 X I J R (7)) := H_fx (by decide +kernel) (by decide +kernel)
theorem g8 : (jH h b X I J R n).1 (b + 8) = some (21, 2001, vf b 21 X I J R (8)) := H_fx (by decide +kernel) (by decide +kernel)
theorem g9 : (jH h b X I J R n).1 (b + 9) = some (20, 2001, vf b 20 X I J R (9)) := H_fx (by decide +kernel) (by decide +kernel)
theorem g10 : (jH h b X I J R n).1 (b + 10) = some (5, 18, vf b 5 X I J R (10)) := H_fx (by decide +kernel) (by decide +kernel)
theorem g11 : (jH h b X I J R n).1 (b + 11) = some (3, 3, vf b 3 X I J R (11)) := H_fx (by decide +kernel) (by decide +kernel)
theorem g12 : (jH h b X I J R n).1 (b + 12) = some (21, 1600, vf b 21 X I J R (12)) := H_fx (by decide +kernel) (by decide +kernel)
theorem g13 : (jH h b X I J R n).1 (b + 13) = some (20, 1600, vf b 20 X I J R (13)) := H_fx (by decide +kernel) (by decide +kernel)
theorem g14 : (jH h b X I J R n).1 (b + 14) = some (1, 5, vf b 1 X I J R (14)) := H_fx (by decide +kernel) (by decide +kernel)
theorem g15 : (jH h b X I J R n).1 (b + 15) = some (20, 2048, vf b 20 X I J R (15)) := H_fx (by decide +kernel) (by decide +kernel)
theorem g16 : (jH h b X I J R n).1 (b + 16) = some (20, 2048, vf b 20 X I J R (16)) := H_fx (by decide +kernel) (by decide +kernel)
theorem g17 : (jH h b X I J R n).1 (b + 17) = some (20, 2048, vf b 20 X I J R (17)) := H_fx (by decide +kernel) (by decide +kernel)
theorem g18 : (jH h b X I J R n).1 (b + 18) = some (20, 2048, vf b 20 X I J R (18)) := H_fx (by decide +kernel) (by decide +kernel)
theorem g19 : (jH h b X I J R n).1 (b + 19) = some (20, 6, vf b 20 X I J R (19)) := H_fx (by decide +kernel) (by decide +kernel)
theorem g20 : (jH h b X I J R n).1 (b + 20) = some (20, 6, vf b 20 X I J R (20)) := H_fx (by decide +kernel) (by decide +kernel)
theorem g21 : (jH h b X I J R n).1 (b + 21) = some (20, 6, vf b 20 X I J R (21)) := H_fx (by decide +kernel) (by decide +kernel)
theorem g22 : (jH h b X I J R n).1 (b + 22) = some (20, 6, vf b 20 X I J R (22)) := H_fx (by decide +kernel) (by decide +kernel)
theorem g23 : (jH h b X I J R n).1 (b + 23) = some (20, 36, vf b 20 X I J R (23)) := H_fx (by decide +kernel) (by decide +kernel)
theorem g24 : (jH h b X I J R n).1 (b + 24) = some (20, 36, vf b 20 X I J R (24)) := H_fx (by decide +kernel) (by decide +kernel)
theorem g25 : (jH h b X I J R n).1 (b + 25) = some (20, 6, vf b 20 X I J R (25)) := H_fx (by decide +kernel) (by decide +kernel)
theorem g26 : (jH h b X I J R n).1 (b + 26) = some (20, 48, vf b 20 X I J R (26)) := H_fx (by decide +kernel) (by decide +kernel)
theorem g27 : (jH h b X I J R n).1 (b + 27) = some (20, 48, vf b 20 X I J R (27)) := H_fx (by decide +kernel) (by decide +kernel)
theorem g28 : (jH h b X I J R n).1 (b + 28) = some (20, 384, vf b 20 X I J R (28)) := H_fx (by decide +kernel) (by decide +kernel)
theorem g29 : (jH h b X I J R n).1 (b + 29) = some (20, 384, vf b 20 X I J R (29)) := H_fx (by decide +kernel) (by decide +kernel)
theorem g30 : (jH h b X I J R n).1 (b + 30) = some (20, 384, vf b 20 X I J R (30)) := H_fx (by decide +kernel) (by decide +kernel)
theorem g31 : (jH h b X I J R n).1 (b + 31) = some (20, 384, vf b 20 X I J R (31)) := H_fx (by decide +kernel) (by decide +kernel)
theorem g32 : (jH h b X I J R n).1 (b + 32) = some (20, 384, vf b 20 X I J R (32)) := H_fx (by decide +kernel) (by decide +kernel)
theorem g33 : (jH h b X I J R n).1 (b + 33) = some (5, 18, vf b 5 X I J R (33)) := H_fx (by decide +kernel) (by decide +kernel)
theorem g34 : (jH h b X I J R n).1 (b + 34) = some (3, 3, vf b 3 X I J R (34)) := H_fx (by decide +kernel) (by decide +kernel)
theorem g35 : (jH h b X I J R n).1 (b + 35) = some (21, 1600, vf b 21 X I J R (35)) := H_fx (by decide +kernel) (by decide +kernel)
theorem g36 : (jH h b X I J R n).1 (b + 36) = some (20, 1600, vf b 20 X I J R (36)) := H_fx (by decide +kernel) (by decide +kernel)
theorem g37 : (jH h b X I J R n).1 (b + 37) = some (1, 5, vf b 1 X I J R (37)) := H_fx (by decide +kernel) (by decide +kernel)
theorem g38 : (jH h b X I J R n).1 (b + 38) = some (20, 2048, vf b 20 X I J R (38)) := H_fx (by decide +kernel) (by decide +kernel)
theorem g39 : (jH h b X I J R n).1 (b + 39) = some (20, 2048, vf b 20 X I J R (39)) := H_fx (by decide +kernel) (by decide +kernel)
theorem g40 : (jH h b X I J R n).1 (b + 40) = some (20, 2048, vf b 20 X I J R (40)) := H_fx (by decide +kernel) (by decide +kernel)
theorem g41 : (jH h b X I J R n).1 (b + 41) = some (20, 2048, vf b 20 X I J R (41)) := H_fx (by decide +kernel) (by decide +kernel)
theorem g42 : (jH h b X I J R n).1 (b + 42) = some (20, 6, vf b 20 X I J R (42)) := H_fx (by decide +kernel) (by decide +kernel)
theorem g43 : (jH h b X I J R n).1 (b + 43) = some (20, 6, vf b 20 X I J R (43)) := H_fx (by decide +kernel) (by decide +kernel)
theorem g44 : (jH h b X I J R n).1 (b + 44) = some (20, 6, vf b 20 X I J R (44)) := H_fx (by decide +kernel) (by decide +kernel)
theorem g45 : (jH h b X I J R n).1 (b + 45) = some (20, 6, vf b 20 X I J R (45)) := H_fx (by decide +kernel) (by decide +kernel)
theorem g46 : (jH h b X I J R n).1 (b + 46) = some (20, 36, vf b 20 X I J R (46)) := H_fx (by decide +kernel) (by decide +kernel)
theorem g47 : (jH h b X I J R n).1 (b + 47) = some (20, 36, vf b 20 X I J R (47)) := H_fx (by decide +kernel) (by decide +kernel)
theorem g48 : (jH h b X I J R n).1 (b + 48) = some (20, 6, vf b 20 X I J R (48)) := H_fx (by decide +kernel) (by decide +kernel)
theorem g49 : (jH h b X I J R n).1 (b + 49) = some (20, 48, vf b 20 X I J R (49)) := H_fx (by decide +kernel) (by decide +kernel)
theorem g50 : (jH h b X I J R n).1 (b + 50) = some (20, 48, vf b 20 X I J R (50)) := H_fx (by decide +kernel) (by decide +kernel)
theorem g51 : (jH h b X I J R n).1 (b + 51) = some (20, 384, vf b 20 X I J R (51)) := H_fx (by decide +kernel) (by decide +kernel)
theorem g52 : (jH h b X I J R n).1 (b + 52) = some (20, 384, vf b 20 X I J R (52)) := H_fx (by decide +kernel) (by decide +kernel)
theorem g53 : (jH h b X I J R n).1 (b + 53) = some (20, 384, vf b 20 X I J R (53)) := H_fx (by decide +kernel) (by decide +kernel)
theorem g54 : (jH h b X I J R n).1 (b + 54) = some (20, 384, vf b 20 X I J R (54)) := H_fx (by decide +kernel) (by decide +kernel)
theorem g55 : (jH h b X I J R n).1 (b + 55) = some (20, 384, vf b 20 X I J R (55)) := H_fx (by decide +kernel) (by decide +kernel)
theorem g56 : (jH h b X I J R n).1 (b + 56) = some (4, 10, vf b 4 X I J R (56)) := H_fx (by decide +kernel) (by decide +kernel)
theorem g57 : (jH h b X I J R n).1 (b + 57) = some (9, 13, vf b 9 X I J R (57)) := H_fx (by decide +kernel) (by decide +kernel)
theorem g58 : (jH h b X I J R n).1 (b + 58) = some (7, 8, vf b 7 X I J R (58)) := H_fx (by decide +kernel) (by decide +kernel)
theorem g59 : (jH h b X I J R n).1 (b + 59) = some (20, 400, vf b 20 X I J R (59)) := H_fx (by decide +kernel) (by decide +kernel)
theorem g60 : (jH h b X I J R n).1 (b + 60) = some (20, 400, vf b 20 X I J R (60)) := H_fx (by decide +kernel) (by decide +kernel)
theorem g61 : (jH h b X I J R n).1 (b + 61) = some (20, 400, vf b 20 X I J R (61)) := H_fx (by decide +kernel) (by decide +kernel)
theorem g62 : (jH h b X I J R n).1 (b + 62) = some (20, 400, vf b 20 X I J R (62)) := H_fx (by decide +kernel) (by decide +kernel)
theorem g63 : (jH h b X I J R n).1 (b + 63) = some (20, 400, vf b 20 X I J R (63)) := H_fx (by decide +kernel) (by decide +kernel)
theorem g64 : (jH h b X I J R n).1 (b + 64) = some (20, 400, vf b 20 X I J R (64)) := H_fx (by decide +kernel) (by decide +kernel)
theorem g65 : (jH h b X I J R n).1 (b + 65) = some (24, 8, vf b 24 X I J R (65)) := H_fx (by decide +kernel) (by decide +kernel)
theorem g66 : (jH h b X I J R n).1 (b + 66) = some (2, 15, vf b 2 X I J R (66)) := H_fx (by decide +kernel) (by decide +kernel)
theorem g67 : (jH h b X I J R n).1 (b + 67) = some (20, 6, vf b 20 X I J R (67)) := H_fx (by decide +kernel) (by decide +kernel)
theorem g68 : (jH h b X I J R n).1 (b + 68) = some (20, 8, vf b 20 X I J R (68)) := H_fx (by decide +kernel) (by decide +kernel)
theorem g69 : (jH h b X I J R n).1 (b + 69) = some (20, 8, vf b 20 X I J R (69)) := H_fx (by decide +kernel) (by decide +kernel)
theorem g70 : (jH h b X I J R n).1 (b + 70) = some (20, 8, vf b 20 X I J R (70)) := H_fx (by decide +kernel) (by decide +kernel)
theorem g71 : (jH h b X I J R n).1 (b + 71) = some (20, 8, vf b 20 X I J R (71)) := H_fx (by decide +kernel) (by decide +kernel)
theorem g72 : (jH h b X I J R n).1 (b + 72) = some (20, 4, vf b 20 X I J R (72)) := H_fx (by decide +kernel) (by decide +kernel)
theorem g73 : (jH h b X I J R n).1 (b + 73) = some (20, 4, vf b 20 X I J R (73)) := H_fx (by decide +kernel) (by decide +kernel)
theorem g74 : (jH h b X I J R n).1 (b + 74) = some (2, 15, vf b 2 X I J R (74)) := H_fx (by decide +kernel) (by decide +kernel)
theorem g75 : (jH h b X I J R n).1 (b + 75) = some (20, 6, vf b 20 X I J R (75)) := H_fx (by decide +kernel) (by decide +kernel)
theorem g76 : (jH h b X I J R n).1 (b + 76) = some (20, 8, vf b 20 X I J R (76)) := H_fx (by decide +kernel) (by decide +kernel)
theorem g77 : (jH h b X I J R n).1 (b + 77) = some (20, 8, vf b 20 X I J R (77)) := H_fx (by decide +kernel) (by decide +kernel)
theorem g78 : (jH h b X I J R n).1 (b + 78) = some (20, 8, vf b 20 X I J R (78)) := H_fx (by decide +kernel) (by decide +kernel)
theorem g79 : (jH h b X I J R n).1 (b + 79) = some (20, 8, vf b 20 X I J R (79)) := H_fx (by decide +kernel) (by decide +kernel)
theorem g80 : (jH h b X I J R n).1 (b + 80) = some (20, 4, vf b 20 X I J R (80)) := H_fx (by decide +kernel) (by decide +kernel)
theorem g81 : (jH h b X I J R n).1 (b + 81) = some (20, 4, vf b 20 X I J R (81)) := H_fx (by decide +kernel) (by decide +kernel)
theorem g82 : (jH h b X I J R n).1 (b + 82) = some (2, 15, vf b 2 X I J R (82)) := H_fx (by decide +kernel) (by decide +kernel)
theorem g83 : (jH h b X I J R n).1 (b + 83) = some (20, 6, vf b 20 X I J R (83)) := H_fx (by decide +kernel) (by decide +kernel)
theorem g84 : (jH h b X I J R n).1 (b + 84) = some (20, 8, vf b 20 X I J R (84)) := H_fx (by decide +kernel) (by decide +kernel)
theorem g85 : (jH h b X I J R n).1 (b + 85) = some (20, 8, vf b 20 X I J R (85)) := H_fx (by decide +kernel) (by decide +kernel)
theorem g86 : (jH h b X I J R n).1 (b + 86) = some (20, 8, vf b 20 X I J R (86)) := H_fx (by decide +kernel) (by decide +kernel)
theorem g87 : (jH h b X I J R n).1 (b + 87) = some (20, 8, vf b 20 X I J R (87)) := H_fx (by decide +kernel) (by decide +kernel)
theorem g88 : (jH h b X I J R n).1 (b + 88) = some (20, 4, vf b 20 X I J R (88)) := H_fx (by decide +kernel) (by decide +kernel)
theorem g89 : (jH h b X I J R n).1 (b + 89) = some (20, 4, vf b 20 X I J R (89)) := H_fx (by decide +kernel) (by decide +kernel)
theorem g90 : (jH h b X I J R n).1 (b + 90) = some (2, 15, vf b 2 X I J R (90)) := H_fx (by decide +kernel) (by decide +kernel)
theorem g91 : (jH h b X I J R n).1 (b + 91) = some (20, 6, vf b 20 X I J R (91)) := H_fx (by decide +kernel) (by decide +kernel)
theorem g92 : (jH h b X I J R n).1 (b + 92) = some (20, 8, vf b 20 X I J R (92)) := H_fx (by decide +kernel) (by decide +kernel)
theorem g93 : (jH h b X I J R n).1 (b + 93) = some (20, 8, vf b 20 X I J R (93)) := H_fx (by decide +kernel) (by decide +kernel)
theorem g94 : (jH h b X I J R n).1 (b + 94) = some (20, 8, vf b 20 X I J R (94)) := H_fx (by decide +kernel) (by decide +kernel)
theorem g95 : (jH h b X I J R n).1 (b + 95) = some (20, 8, vf b 20 X I J R (95)) := H_fx (by decide +kernel) (by decide +kernel)
theorem g96 : (jH h b X I J R n).1 (b + 96) = some (20, 4, vf b 20 X I J R (96)) := H_fx (by decide +kernel) (by decide +kernel)
theorem g97 : (jH h b X I J R n).1 (b + 97) = some (20, 4, vf b 20 X I J R (97)) := H_fx (by decide +kernel) (by decide +kernel)
theorem g98 : (jH h b X I J R n).1 (b + 98) = some (2, 15, vf b 2 X I J R (98)) := H_fx (by decide +kernel) (by decide +kernel)
theorem g99 : (jH h b X I J R n).1 (b + 99) = some (20, 6, vf b 20 X I J R (99)) := H_fx (by decide +kernel) (by decide +kernel)
theorem g100 : (jH h b X I J R n).1 (b + 100) = some (20, 8, vf b 20 X I J R (100)) := H_fx (by decide +kernel) (by decide +kernel)
theorem g101 : (jH h b X I J R n).1 (b + 101) = some (20, 8, vf b 20 X I J R (101)) := H_fx (by decide +kernel) (by decide +kernel)
theorem g102 : (jH h b X I J R n).1 (b + 102) = some (20, 8, vf b 20 X I J R (102)) := H_fx (by decide +kernel) (by decide +kernel)
theorem g103 : (jH h b X I J R n).1 (b + 103) = some (20, 8, vf b 20 X I J R (103)) := H_fx (by decide +kernel) (by decide +kernel)
theorem g104 : (jH h b X I J R n).1 (b + 104) = some (20, 4, vf b 20 X I J R (104)) := H_fx (by decide +kernel) (by decide +kernel)
theorem g105 : (jH h b X I J R n).1 (b + 105) = some (20, 4, vf b 20 X I J R (105)) := H_fx (by decide +kernel) (by decide +kernel)
theorem g106 : (jH h b X I J R n).1 (b + 106) = some (2, 15, vf b 2 X I J R (106)) := H_fx (by decide +kernel) (by decide +kernel)
theorem g107 : (jH h b X I J R n).1 (b + 107) = some (20, 6, vf b 20 X I J R (107)) := H_fx (by decide +kernel) (by decide +kernel)
theorem g108 : (jH h b X I J R n).1 (b + 108) = some (20, 8, vf b 20 X I J R (108)) := H_fx (by decide +kernel) (by decide +kernel)
theorem g109 : (jH h b X I J R n).1 (b + 109) = some (20, 8, vf b 20 X I J R (109)) := H_fx (by decide +kernel) (by decide +kernel)
theorem g110 : (jH h b X I J R n).1 (b + 110) = some (20, 8, vf b 20 X I J R (110)) := H_fx (by decide +kernel) (by decide +kernel)
theorem g111 : (jH h b X I J R n).1 (b + 111) = some (20, 8, vf b 20 X I J R (111)) := H_fx (by decide +kernel) (by decide +kernel)
theorem g112 : (jH h b X I J R n).1 (b + 112) = some (20, 4, vf b 20 X I J R (112)) := H_fx (by decide +kernel) (by decide +kernel)
theorem g113 : (jH h b X I J R n).1 (b + 113) = some (20, 4, vf b 20 X I J R (113)) := H_fx (by decide +kernel) (by decide +kernel)
theorem g114 : (jH h b X I J R n).1 (b + 114) = some (2, 15, vf b 2 X I J R (114)) := H_fx (by decide +kernel) (by decide +kernel)
theorem g115 : (jH h b X I J R n).1 (b + 115) = some (20, 6, vf b 20 X I J R (115)) := H_fx (by decide +kernel) (by decide +kernel)
theorem g116 : (jH h b X I J R n).1 (b + 116) = some (20, 8, vf b 20 X I J R (116)) := H_fx (by decide +kernel) (by decide +kernel)
theorem g117 : (jH h b X I J R n).1 (b + 117) = some (20, 8, vf b 20 X I J R (117)) := H_fx (by decide +kernel) (by decide +kernel)
theorem g118 : (jH h b X I J R n).1 (b + 118) = some (20, 8, vf b 20 X I J R (118)) := H_fx (by decide +kernel) (by decide +kernel)
theorem g119 : (jH h b X I J R n).1 (b + 119) = some (20, 8, vf b 20 X I J R (119)) := H_fx (by decide +kernel) (by decide +kernel)
theorem g120 : (jH h b X I J R n).1 (b + 120) = some (20, 4, vf b 20 X I J R (120)) := H_fx (by decide +kernel) (by decide +kernel)
theorem g121 : (jH h b X I J R n).1 (b + 121) = some (20, 4, vf b 20 X I J R (121)) := H_fx (by decide +kernel) (by decide +kernel)
theorem g122 : (jH h b X I J R n).1 (b + 122) = some (2, 15, vf b 2 X I J R (122)) := H_fx (by decide +kernel) (by decide +kernel)
theorem g123 : (jH h b X I J R n).1 (b + 123) = some (20, 6, vf b 20 X I J R (123)) := H_fx (by decide +kernel) (by decide +kernel)
theorem g124 : (jH h b X I J R n).1 (b + 124) = some (20, 8, vf b 20 X I J R (124)) := H_fx (by decide +kernel) (by decide +kernel)
theorem g125 : (jH h b X I J R n).1 (b + 125) = some (20, 8, vf b 20 X I J R (125)) := H_fx (by decide +kernel) (by decide +kernel)
theorem g126 : (jH h b X I J R n).1 (b + 126) = some (20, 8, vf b 20 X I J R (126)) := H_fx (by decide +kernel) (by decide +kernel)
theorem g127 : (jH h b X I J R n).1 (b + 127) = some (20, 8, vf b 20 X I J R (127)) := H_fx (by decide +kernel) (by decide +kernel)
theorem g128 : (jH h b X I J R n).1 (b + 128) = some (20, 4, vf b 20 X I J R (128)) := H_fx (by decide +kernel) (by decide +kernel)
theorem g129 : (jH h b X I J R n).1 (b + 129) = some (20, 4, vf b 20 X I J R (129)) := H_fx (by decide +kernel) (by decide +kernel)
theorem g130 : (jH h b X I J R n).1 (b + 130) = some (20, 64, vf b 20 X I J R (130)) := H_fx (by decide +kernel) (by decide +kernel)
theorem g131 : (jH h b X I J R n).1 (b + 131) = some (8, 16, vf b 8 X I J R (131)) := H_fx (by decide +kernel) (by decide +kernel)
theorem g132 : (jH h b X I J R n).1 (b + 132) = some (9, 13, vf b 9 X I J R (132)) := H_fx (by decide +kernel) (by decide +kernel)
theorem g133 : (jH h b X I J R n).1 (b + 133) = some (7, 8, vf b 7 X I J R (133)) := H_fx (by decide +kernel) (by decide +kernel)
theorem g134 : (jH h b X I J R n).1 (b + 134) = some (20, 0, vf b 20 X I J R (134)) := H_fx (by decide +kernel) (by decide +kernel)
theorem g135 : (jH h b X I J R n).1 (b + 135) = some (20, 0, vf b 20 X I J R (135)) := H_fx (by decide +kernel) (by decide +kernel)
theorem g136 : (jH h b X I J R n).1 (b + 136) = some (20, 0, vf b 20 X I J R (136)) := H_fx (by decide +kernel) (by decide +kernel)
theorem g137 : (jH h b X I J R n).1 (b + 137) = some (20, 0, vf b 20 X I J R (137)) := H_fx (by decide +kernel) (by decide +kernel)
theorem g138 : (jH h b X I J R n).1 (b + 138) = some (20, 0, vf b 20 X I J R (138)) := H_fx (by decide +kernel) (by decide +kernel)
theorem g139 : (jH h b X I J R n).1 (b + 139) = some (20, 0, vf b 20 X I J R (139)) := H_fx (by decide +kernel) (by decide +kernel)
theorem g140 : (jH h b X I J R n).1 (b + 140) = some (24, 8, vf b 24 X I J R (140)) := H_fx (by decide +kernel) (by decide +kernel)
theorem g141 : (jH h b X I J R n).1 (b + 141) = some (2, 15, vf b 2 X I J R (141)) := H_fx (by decide +kernel) (by decide +kernel)
theorem g142 : (jH h b X I J R n).1 (b + 142) = some (20, 6, vf b 20 X I J R (142)) := H_fx (by decide +kernel) (by decide +kernel)
theorem g143 : (jH h b X I J R n).1 (b + 143) = some (20, 8, vf b 20 X I J R (143)) := H_fx (by decide +kernel) (by decide +kernel)
theorem g144 : (jH h b X I J R n).1 (b + 144) = some (20, 8, vf b 20 X I J R (144)) := H_fx (by decide +kernel) (by decide +kernel)
theorem g145 : (jH h b X I J R n).1 (b + 145) = some (20, 8, vf b 20 X I J R (145)) := H_fx (by decide +kernel) (by decide +kernel)
theorem g146 : (jH h b X I J R n).1 (b + 146) = some (20, 8, vf b 20 X I J R (146)) := H_fx (by decide +kernel) (by decide +kernel)
theorem g147 : (jH h b X I J R n).1 (b + 147) = some (20, 4, vf b 20 X I J R (147)) := H_fx (by decide +kernel) (by decide +kernel)
theorem g148 : (jH h b X I J R n).1 (b + 148) = some (20, 4, vf b 20 X I J R (148)) := H_fx (by decide +kernel) (by decide +kernel)
theorem g149 : (jH h b X I J R n).1 (b + 149) = some (2, 15, vf b 2 X I J R (149)) := H_fx (by decide +kernel) (by decide +kernel)
theorem g150 : (jH h b X I J R n).1 (b + 150) = some (20, 6, vf b 20 X I J R (150)) := H_fx (by decide +kernel) (by decide +kernel)
theorem g151 : (jH h b X I J R n).1 (b + 151) = some (20, 8, vf b 20 X I J R (151)) := H_fx (by decide +kernel) (by decide +kernel)
theorem g152 : (jH h b X I J R n).1 (b + 152) = some (20, 8, vf b 20 X I J R (152)) := H_fx (by decide +kernel) (by decide +kernel)
theorem g153 : (jH h b X I J R n).1 (b + 153) = some (20, 8, vf b 20 X I J R (153)) := H_fx (by decide +kernel) (by decide +kernel)
theorem g154 : (jH h b X I J R n).1 (b + 154) = some (20, 8, vf b 20 X I J R (154)) := H_fx (by decide +kernel) (by decide +kernel)
theorem g155 : (jH h b X I J R n).1 (b + 155) = some (20, 4, vf b 20 X I J R (155)) := H_fx (by decide +kernel) (by decide +kernel)
theorem g156 : (jH h b X I J R n).1 (b + 156) = some (20, 4, vf b 20 X I J R (156)) := H_fx (by decide +kernel) (by decide +kernel)
theorem g157 : (jH h b X I J R n).1 (b + 157) = some (2, 15, vf b 2 X I J R (157)) := H_fx (by decide +kernel) (by decide +kernel)
theorem g158 : (jH h b X I J R n).1 (b + 158) = some (20, 6, vf b 20 X I J R (158)) := H_fx (by decide +kernel) (by decide +kernel)
theorem g159 : (jH h b X I J R n).1 (b + 159) = some (20, 8, vf b 20 X I J R (159)) := H_fx (by decide +kernel) (by decide +kernel)
theorem g160 : (jH h b X I J R n).1 (b + 160) = some (20, 8, vf b 20 X I J R (160)) := H_fx (by decide +kernel) (by decide +kernel)
theorem g161 : (jH h b X I J R n).1 (b + 161) = some (20, 8, vf b 20 X I J R (161)) := H_fx (by decide +kernel) (by decide +kernel)
theorem g162 : (jH h b X I J R n).1 (b + 162) = some (20, 8, vf b 20 X I J R (162)) := H_fx (by decide +kernel) (by decide +kernel)
theorem g163 : (jH h b X I J R n).1 (b + 163) = some (20, 4, vf b 20 X I J R (163)) := H_fx (by decide +kernel) (by decide +kernel)
theorem g164 : (jH h b X I J R n).1 (b + 164) = some (20, 4, vf b 20 X I J R (164)) := H_fx (by decide +kernel) (by decide +kernel)
theorem g165 : (jH h b X I J R n).1 (b + 165) = some (2, 15, vf b 2 X I J R (165)) := H_fx (by decide +kernel) (by decide +kernel)
theorem g166 : (jH h b X I J R n).1 (b + 166) = some (20, 6, vf b 20 X I J R (166)) := H_fx (by decide +kernel) (by decide +kernel)
theorem g167 : (jH h b X I J R n).1 (b + 167) = some (20, 8, vf b 20 X I J R (167)) := H_fx (by decide +kernel) (by decide +kernel)
theorem g168 : (jH h b X I J R n).1 (b + 168) = some (20, 8, vf b 20 X I J R (168)) := H_fx (by decide +kernel) (by decide +kernel)
theorem g169 : (jH h b X I J R n).1 (b + 169) = some (20, 8, vf b 20 X I J R (169)) := H_fx (by decide +kernel) (by decide +kernel)
theorem g170 : (jH h b X I J R n).1 (b + 170) = some (20, 8, vf b 20 X I J R (170)) := H_fx (by decide +kernel) (by decide +kernel)
theorem g171 : (jH h b X I J R n).1 (b + 171) = some (20, 4, vf b 20 X I J R (171)) := H_fx (by decide +kernel) (by decide +kernel)
theorem g172 : (jH h b X I J R n).1 (b + 172) = some (20, 4, vf b 20 X I J R (172)) := H_fx (by decide +kernel) (by decide +kernel)
theorem g173 : (jH h b X I J R n).1 (b + 173) = some (2, 15, vf b 2 X I J R (173)) := H_fx (by decide +kernel) (by decide +kernel)
theorem g174 : (jH h b X I J R n).1 (b + 174) = some (20, 6, vf b 20 X I J R (174)) := H_fx (by decide +kernel) (by decide +kernel)
theorem g175 : (jH h b X I J R n).1 (b + 175) = some (20, 8, vf b 20 X I J R (175)) := H_fx (by decide +kernel) (by decide +kernel)
theorem g176 : (jH h b X I J R n).1 (b + 176) = some (20, 8, vf b 20 X I J R (176)) := H_fx (by decide +kernel) (by decide +kernel)
theorem g177 : (jH h b X I J R n).1 (b + 177) = some (20, 8, vf b 20 X I J R (177)) := H_fx (by decide +kernel) (by decide +kernel)
theorem g178 : (jH h b X I J R n).1 (b + 178) = some (20, 8, vf b 20 X I J R (178)) := H_fx (by decide +kernel) (by decide +kernel)
theorem g179 : (jH h b X I J R n).1 (b + 179) = some (20, 4, vf b 20 X I J R (179)) := H_fx (by decide +kernel) (by decide +kernel)
theorem g180 : (jH h b X I J R n).1 (b + 180) = some (20, 4, vf b 20 X I J R (180)) := H_fx (by decide +kernel) (by decide +kernel)
theorem g181 : (jH h b X I J R n).1 (b + 181) = some (2, 15, vf b 2 X I J R (181)) := H_fx (by decide +kernel) (by decide +kernel)
theorem g182 : (jH h b X I J R n).1 (b + 182) = some (20, 6, vf b 20 X I J R (182)) := H_fx (by decide +kernel) (by decide +kernel)
theorem g183 : (jH h b X I J R n).1 (b + 183) = some (20, 8, vf b 20 X I J R (183)) := H_fx (by decide +kernel) (by decide +kernel)
theorem g184 : (jH h b X I J R n).1 (b + 184) = some (20, 8, vf b 20 X I J R (184)) := H_fx (by decide +kernel) (by decide +kernel)
theorem g185 : (jH h b X I J R n).1 (b + 185) = some (20, 8, vf b 20 X I J R (185)) := H_fx (by decide +kernel) (by decide +kernel)
theorem g186 : (jH h b X I J R n).1 (b + 186) = some (20, 8, vf b 20 X I J R (186)) := H_fx (by decide +kernel) (by decide +kernel)
theorem g187 : (jH h b X I J R n).1 (b + 187) = some (20, 4, vf b 20 X I J R (187)) := H_fx (by decide +kernel) (by decide +kernel)
theorem g188 : (jH h b X I J R n).1 (b + 188) = some (20, 4, vf b 20 X I J R (188)) := H_fx (by decide +kernel) (by decide +kernel)
theorem g189 : (jH h b X I J R n).1 (b + 189) = some (2, 15, vf b 2 X I J R (189)) := H_fx (by decide +kernel) (by decide +kernel)
theorem g190 : (jH h b X I J R n).1 (b + 190) = some (20, 6, vf b 20 X I J R (190)) := H_fx (by decide +kernel) (by decide +kernel)
theorem g191 : (jH h b X I J R n).1 (b + 191) = some (20, 8, vf b 20 X I J R (191)) := H_fx (by decide +kernel) (by decide +kernel)
theorem g192 : (jH h b X I J R n).1 (b + 192) = some (20, 8, vf b 20 X I J R (192)) := H_fx (by decide +kernel) (by decide +kernel)
theorem g193 : (jH h b X I J R n).1 (b + 193) = some (20, 8, vf b 20 X I J R (193)) := H_fx (by decide +kernel) (by decide +kernel)
theorem g194 : (jH h b X I J R n).1 (b + 194) = some (20, 8, vf b 20 X I J R (194)) := H_fx (by decide +kernel) (by decide +kernel)
theorem g195 : (jH h b X I J R n).1 (b + 195) = some (20, 4, vf b 20 X I J R (195)) := H_fx (by decide +kernel) (by decide +kernel)
theorem g196 : (jH h b X I J R n).1 (b + 196) = some (20, 4, vf b 20 X I J R (196)) := H_fx (by decide +kernel) (by decide +kernel)
theorem g197 : (jH h b X I J R n).1 (b + 197) = some (2, 15, vf b 2 X I J R (197)) := H_fx (by decide +kernel) (by decide +kernel)
theorem g198 : (jH h b X I J R n).1 (b + 198) = some (20, 6, vf b 20 X I J R (198)) := H_fx (by decide +kernel) (by decide +kernel)
theorem g199 : (jH h b X I J R n).1 (b + 199) = some (20, 8, vf b 20 X I J R (199)) := H_fx (by decide +kernel) (by decide +kernel)
theorem g200 : (jH h b X I J R n).1 (b + 200) = some (20, 8, vf b 20 X I J R (200)) := H_fx (by decide +kernel) (by decide +kernel)
theorem g201 : (jH h b X I J R n).1 (b + 201) = some (20, 8, vf b 20 X I J R (201)) := H_fx (by decide +kernel) (by decide +kernel)
theorem g202 : (jH h b X I J R n).1 (b + 202) = some (20, 8, vf b 20 X I J R (202)) := H_fx (by decide +kernel) (by decide +kernel)
theorem g203 : (jH h b X I J R n).1 (b + 203) = some (20, 4, vf b 20 X I J R (203)) := H_fx (by decide +kernel) (by decide +kernel)
theorem g204 : (jH h b X I J R n).1 (b + 204) = some (20, 4, vf b 20 X I J R (204)) := H_fx (by decide +kernel) (by decide +kernel)
theorem g205 : (jH h b X I J R n).1 (b + 205) = some (20, 64, vf b 20 X I J R (205)) := H_fx (by decide +kernel) (by decide +kernel)
theorem g207 : (jH h b X I J R n).1 (b + 207) = some (20, 1001, vf b 20 X I J R (207)) := H_fx (by decide +kernel) (by decide +kernel)
theorem g208 : (jH h b X I J R n).1 (b + 208) = some (20, 1000, vf b 20 X I J R (208)) := H_fx (by decide +kernel) (by decide +kernel)
theorem g209 : (jH h b X I J R n).1 (b + 209) = some (20, 1000, vf b 20 X I J R (209)) := H_fx (by decide +kernel) (by decide +kernel)
theorem g210 : (jH h b X I J R n).1 (b + 210) = some (20, 1000, vf b 20 X I J R (210)) := H_fx (by decide +kernel) (by decide +kernel)
theorem g211 : (jH h b X I J R n).1 (b + 211) = some (20, 1000, vf b 20 X I J R (211)) := H_fx (by decide +kernel) (by decide +kernel)
theorem g212 : (jH h b X I J R n).1 (b + 212) = some (20, 2048, vf b 20 X I J R (212)) := H_fx (by decide +kernel) (by decide +kernel)
theorem g213 : (jH h b X I J R n).1 (b + 213) = some (20, 370, vf b 20 X I J R (213)) := H_fx (by decide +kernel) (by decide +kernel)
theorem g214 : (jH h b X I J R n).1 (b + 214) = some (20, 1000, vf b 20 X I J R (214)) := H_fx (by decide +kernel) (by decide +kernel)
theorem g215 : (jH h b X I J R n).1 (b + 215) = some (0, 13, vf b 0 X I J R (215)) := H_fx (by decide +kernel) (by decide +kernel)
theorem g216 : (jH h b X I J R n).1 (b + 216) = some (3, 3, vf b 3 X I J R (216)) := H_fx (by decide +kernel) (by decide +kernel)
theorem g217 : (jH h b X I J R n).1 (b + 217) = some (21, 48, vf b 21 X I J R (217)) := H_fx (by decide +kernel) (by decide +kernel)
theorem g218 : (jH h b X I J R n).1 (b + 218) = some (20, 48, vf b 20 X I J R (218)) := H_fx (by decide +kernel) (by decide +kernel)
theorem g219 : (jH h b X I J R n).1 (b + 219) = some (20, 8, vf b 20 X I J R (219)) := H_fx (by decide +kernel) (by decide +kernel)
theorem g220 : (jH h b X I J R n).1 (b + 220) = some (20, 40, vf b 20 X I J R (220)) := H_fx (by decide +kernel) (by decide +kernel)
theorem g221 : (jH h b X I J R n).1 (b + 221) = some (20, 40, vf b 20 X I J R (221)) := H_fx (by decide +kernel) (by decide +kernel)
theorem g222 : (jH h b X I J R n).1 (b + 222) = some (20, 40, vf b 20 X I J R (222)) := H_fx (by decide +kernel) (by decide +kernel)
theorem g223 : (jH h b X I J R n).1 (b + 223) = some (21, 80, vf b 21 X I J R (223)) := H_fx (by decide +kernel) (by decide +kernel)
theorem g224 : (jH h b X I J R n).1 (b + 224) = some (21, 80, vf b 21 X I J R (224)) := H_fx (by decide +kernel) (by decide +kernel)
theorem g225 : (jH h b X I J R n).1 (b + 225) = some (23, 80, vf b 23 X I J R (225)) := H_fx (by decide +kernel) (by decide +kernel)
theorem g226 : (jH h b X I J R n).1 (b + 226) = some (20, 3160, vf b 20 X I J R (226)) := H_fx (by decide +kernel) (by decide +kernel)
theorem g227 : (jH h b X I J R n).1 (b + 227) = some (20, 3160, vf b 20 X I J R (227)) := H_fx (by decide +kernel) (by decide +kernel)
theorem g228 : (jH h b X I J R n).1 (b + 228) = some (0, 13, vf b 0 X I J R (228)) := H_fx (by decide +kernel) (by decide +kernel)
theorem g229 : (jH h b X I J R n).1 (b + 229) = some (3, 3, vf b 3 X I J R (229)) := H_fx (by decide +kernel) (by decide +kernel)
theorem g230 : (jH h b X I J R n).1 (b + 230) = some (21, 48, vf b 21 X I J R (230)) := H_fx (by decide +kernel) (by decide +kernel)
theorem g231 : (jH h b X I J R n).1 (b + 231) = some (20, 48, vf b 20 X I J R (231)) := H_fx (by decide +kernel) (by decide +kernel)
theorem g232 : (jH h b X I J R n).1 (b + 232) = some (20, 8, vf b 20 X I J R (232)) := H_fx (by decide +kernel) (by decide +kernel)
theorem g233 : (jH h b X I J R n).1 (b + 233) = some (20, 40, vf b 20 X I J R (233)) := H_fx (by decide +kernel) (by decide +kernel)
theorem g234 : (jH h b X I J R n).1 (b + 234) = some (20, 40, vf b 20 X I J R (234)) := H_fx (by decide +kernel) (by decide +kernel)
theorem g235 : (jH h b X I J R n).1 (b + 235) = some (20, 40, vf b 20 X I J R (235)) := H_fx (by decide +kernel) (by decide +kernel)
theorem g236 : (jH h b X I J R n).1 (b + 236) = some (21, 80, vf b 21 X I J R (236)) := H_fx (by decide +kernel) (by decide +kernel)
theorem g237 : (jH h b X I J R n).1 (b + 237) = some (21, 80, vf b 21 X I J R (237)) := H_fx (by decide +kernel) (by decide +kernel)
theorem g238 : (jH h b X I J R n).1 (b + 238) = some (23, 80, vf b 23 X I J R (238)) := H_fx (by decide +kernel) (by decide +kernel)
theorem g239 : (jH h b X I J R n).1 (b + 239) = some (20, 3160, vf b 20 X I J R (239)) := H_fx (by decide +kernel) (by decide +kernel)
theorem g240 : (jH h b X I J R n).1 (b + 240) = some (20, 3160, vf b 20 X I J R (240)) := H_fx (by decide +kernel) (by decide +kernel)
theorem g241 : (jH h b X I J R n).1 (b + 241) = some (12, 101, vf b 12 X I J R (241)) := H_fx (by decide +kernel) (by decide +kernel)
theorem g242 : (jH h b X I J R n).1 (b + 242) = some (11, 6, vf b 11 X I J R (242)) := H_fx (by decide +kernel) (by decide +kernel)
theorem g247 : (jH h b X I J R n).1 (b + 247) = some (20, 256, vf b 20 X I J R (247)) := H_fx (by decide +kernel) (by decide +kernel)
theorem g248 : (jH h b X I J R n).1 (b + 248) = some (22, 2000, vf b 22 X I J R (248)) := H_fx (by decide +kernel) (by decide +kernel)
theorem g249 : (jH h b X I J R n).1 (b + 249) = some (22, 2000, vf b 22 X I J R (249)) := H_fx (by decide +kernel) (by decide +kernel)
theorem g250 : (jH h b X I J R n).1 (b + 250) = some (22, 16, vf b 22 X I J R (250)) := H_fx (by decide +kernel) (by decide +kernel)
theorem g259 : (jH h b X I J R n).1 (b + 259) = some (20, 6, vf b 20 X I J R (259)) := H_fx (by decide +kernel) (by decide +kernel)
theorem g260 : (jH h b X I J R n).1 (b + 260) = some (20, 8, vf b 20 X I J R (260)) := H_fx (by decide +kernel) (by decide +kernel)
theorem g261 : (jH h b X I J R n).1 (b + 261) = some (20, 8, vf b 20 X I J R (261)) := H_fx (by decide +kernel) (by decide +kernel)
theorem g262 : (jH h b X I J R n).1 (b + 262) = some (20, 8, vf b 20 X I J R (262)) := H_fx (by decide +kernel) (by decide +kernel)
theorem g263 : (jH h b X I J R n).1 (b + 263) = some (20, 8, vf b 20 X I J R (263)) := H_fx (by decide +kernel) (by decide +kernel)
theorem g264 : (jH h b X I J R n).1 (b + 264) = some (20, 8, vf b 20 X I J R (264)) := H_fx (by decide +kernel) (by decide +kernel)
theorem g265 : (jH h b X I J R n).1 (b + 265) = some (20, 8, vf b 20 X I J R (265)) := H_fx (by decide +kernel) (by decide +kernel)
theorem g266 : (jH h b X I J R n).1 (b + 266) = some (20, 48, vf b 20 X I J R (266)) := H_fx (by decide +kernel) (by decide +kernel)
theorem g267 : (jH h b X I J R n).1 (b + 267) = some (20, 8, vf b 20 X I J R (267)) := H_fx (by decide +kernel) (by decide +kernel)
theorem g268 : (jH h b X I J R n).1 (b + 268) = some (20, 64, vf b 20 X I J R (268)) := H_fx (by decide +kernel) (by decide +kernel)
theorem g269 : (jH h b X I J R n).1 (b + 269) = some (20, 64, vf b 20 X I J R (269)) := H_fx (by decide +kernel) (by decide +kernel)
theorem g270 : (jH h b X I J R n).1 (b + 270) = some (20, 64, vf b 20 X I J R (270)) := H_fx (by decide +kernel) (by decide +kernel)
theorem g271 : (jH h b X I J R n).1 (b + 271) = some (20, 64, vf b 20 X I J R (271)) := H_fx (by decide +kernel) (by decide +kernel)
theorem g272 : (jH h b X I J R n).1 (b + 272) = some (20, 8, vf b 20 X I J R (272)) := H_fx (by decide +kernel) (by decide +kernel)
theorem g273 : (jH h b X I J R n).1 (b + 273) = some (20, 32, vf b 20 X I J R (273)) := H_fx (by decide +kernel) (by decide +kernel)
theorem g274 : (jH h b X I J R n).1 (b + 274) = some (20, 32, vf b 20 X I J R (274)) := H_fx (by decide +kernel) (by decide +kernel)
theorem g275 : (jH h b X I J R n).1 (b + 275) = some (20, 400, vf b 20 X I J R (275)) := H_fx (by decide +kernel) (by decide +kernel)
theorem g276 : (jH h b X I J R n).1 (b + 276) = some (20, 400, vf b 20 X I J R (276)) := H_fx (by decide +kernel) (by decide +kernel)
theorem g277 : (jH h b X I J R n).1 (b + 277) = some (20, 400, vf b 20 X I J R (277)) := H_fx (by decide +kernel) (by decide +kernel)
theorem g278 : (jH h b X I J R n).1 (b + 278) = some (20, 400, vf b 20 X I J R (278)) := H_fx (by decide +kernel) (by decide +kernel)
theorem g279 : (jH h b X I J R n).1 (b + 279) = some (20, 400, vf b 20 X I J R (279)) := H_fx (by decide +kernel) (by decide +kernel)
theorem g280 : (jH h b X I J R n).1 (b + 280) = some (20, 400, vf b 20 X I J R (280)) := H_fx (by decide +kernel) (by decide +kernel)
theorem g281 : (jH h b X I J R n).1 (b + 281) = some (23, 400, vf b 23 X I J R (281)) := H_fx (by decide +kernel) (by decide +kernel)
theorem g282 : (jH h b X I J R n).1 (b + 282) = some (20, 435870, vf b 20 X I J R (282)) := H_fx (by decide +kernel) (by decide +kernel)
theorem g283 : (jH h b X I J R n).1 (b + 283) = some (20, 1002, vf b 20 X I J R (283)) := H_fx (by decide +kernel) (by decide +kernel)
theorem g284 : (jH h b X I J R n).1 (b + 284) = some (20, 1002, vf b 20 X I J R (284)) := H_fx (by decide +kernel) (by decide +kernel)
theorem g285 : (jH h b X I J R n).1 (b + 285) = some (20, 1002, vf b 20 X I J R (285)) := H_fx (by decide +kernel) (by decide +kernel)
theorem g286 : (jH h b X I J R n).1 (b + 286) = some (20, 1002, vf b 20 X I J R (286)) := H_fx (by decide +kernel) (by decide +kernel)
theorem g287 : (jH h b X I J R n).1 (b + 287) = some (20, 40, vf b 20 X I J R (287)) := H_fx (by decide +kernel) (by decide +kernel)
theorem g288 : (jH h b X I J R n).1 (b + 288) = some (20, 40, vf b 20 X I J R (288)) := H_fx (by decide +kernel) (by decide +kernel)
theorem g289 : (jH h b X I J R n).1 (b + 289) = some (20, 40, vf b 20 X I J R (289)) := H_fx (by decide +kernel) (by decide +kernel)
theorem g290 : (jH h b X I J R n).1 (b + 290) = some (20, 40, vf b 20 X I J R (290)) := H_fx (by decide +kernel) (by decide +kernel)
theorem g291 : (jH h b X I J R n).1 (b + 291) = some (20, 40, vf b 20 X I J R (291)) := H_fx (by decide +kernel) (by decide +kernel)
theorem g292 : (jH h b X I J R n).1 (b + 292) = some (20, 40, vf b 20 X I J R (292)) := H_fx (by decide +kernel) (by decide +kernel)
theorem g293 : (jH h b X I J R n).1 (b + 293) = some (20, 8, vf b 20 X I J R (293)) := H_fx (by decide +kernel) (by decide +kernel)
theorem g294 : (jH h b X I J R n).1 (b + 294) = some (20, 8, vf b 20 X I J R (294)) := H_fx (by decide +kernel) (by decide +kernel)
theorem g295 : (jH h b X I J R n).1 (b + 295) = some (23, 6400, vf b 23 X I J R (295)) := H_fx (by decide +kernel) (by decide +kernel)
theorem g296 : (jH h b X I J R n).1 (b + 296) = some (23, 80, vf b 23 X I J R (296)) := H_fx (by decide +kernel) (by decide +kernel)
theorem g297 : (jH h b X I J R n).1 (b + 297) = some (20, 6400, vf b 20 X I J R (297)) := H_fx (by decide +kernel) (by decide +kernel)
theorem g298 : (jH h b X I J R n).1 (b + 298) = some (20, 6400, vf b 20 X I J R (298)) := H_fx (by decide +kernel) (by decide +kernel)
theorem g299 : (jH h b X I J R n).1 (b + 299) = some (21, 1, vf b 21 X I J R (299)) := H_fx (by decide +kernel) (by decide +kernel)
theorem g206 : (jH h b X I J R n).1 (b + ad X 206) = some (20, cp X 206, vf b 20 X I J R 206) := H_ad (by decide +kernel)
theorem g243 : (jH h b X I J R n).1 (b + ad X 243) = some (22, cp X 243, vf b 22 X I J R 243) := H_ad (by decide +kernel)
theorem g244 : (jH h b X I J R n).1 (b + ad X 244) = some (20, cp X 244, vf b 20 X I J R 244) := H_ad (by decide +kernel)
theorem g245 : (jH h b X I J R n).1 (b + ad X 245) = some (20, cp X 245, vf b 20 X I J R 245) := H_ad (by decide +kernel)
theorem g246 : (jH h b X I J R n).1 (b + ad X 246) = some (20, cp X 246, vf b 20 X I J R 246) := H_ad (by decide +kernel)
theorem g251 : (jH h b X I J R n).1 (b + ad X 251) = some (20, cp X 251, vf b 20 X I J R 251) := H_ad (by decide +kernel)
theorem g252 : (jH h b X I J R n).1 (b + ad X 252) = some (20, cp X 252, vf b 20 X I J R 252) := H_ad (by decide +kernel)
theorem g253 : (jH h b X I J R n).1 (b + ad X 253) = some (20, cp X 253, vf b 20 X I J R 253) := H_ad (by decide +kernel)
theorem g254 : (jH h b X I J R n).1 (b + ad X 254) = some (20, cp X 254, vf b 20 X I J R 254) := H_ad (by decide +kernel)
theorem g255 : (jH h b X I J R n).1 (b + ad X 255) = some (20, cp X 255, vf b 20 X I J R 255) := H_ad (by decide +kernel)
theorem g256 : (jH h b X I J R n).1 (b + ad X 256) = some (20, cp X 256, vf b 20 X I J R 256) := H_ad (by decide +kernel)
theorem g257 : (jH h b X I J R n).1 (b + ad X 257) = some (20, cp X 257, vf b 20 X I J R 257) := H_ad (by decide +kernel)
theorem g258 : (jH h b X I J R n).1 (b + ad X 258) = some (20, cp X 258, vf b 20 X I J R 258) := H_ad (by decide +kernel)
theorem vf20 {i : Nat} : vf b 20 X I J R k i = .int (I k i) := rfl
theorem vf22 {i : Nat} : vf b 22 X I J R k i = .int (I k i) := rfl
theorem vf23 {i : Nat} : vf b 23 X I J R k i = .int (I k i) := rfl
theorem vf21 {i : Nat} : vf b 21 X I J R k i = .long (J k i) := rfl
theorem vf24 {i : Nat} (h8 : i < 8) : vf b 24 X I J R k i = .ref (b + R k i) := by simp [vf, h8]
theorem vf0_0 : vf b 0 X I J R k 0 = .ref (b + tgt X R k 0) := rfl
theorem vf0_1 : vf b 0 X I J R k 1 = .ref (b + tgt X R k 1) := rfl
theorem vf0_2 : vf b 0 X I J R k 2 = .int (I k 2) := rfl
theorem vf0_3 : vf b 0 X I J R k 3 = .ref (b + tgt X R k 3) := rfl
theorem vf0_4 : vf b 0 X I J R k 4 = .ref (b + tgt X R k 4) := rfl
theorem vf0_5 : vf b 0 X I J R k 5 = .ref (b + tgt X R k 5) := rfl
theorem vf0_6 : vf b 0 X I J R k 6 = .int (I k 6) := rfl
theorem vf0_7 : vf b 0 X I J R k 7 = .ref (b + tgt X R k 7) := rfl
theorem vf0_8 : vf b 0 X I J R k 8 = .ref (b + tgt X R k 8) := rfl
theorem vf0_9 : vf b 0 X I J R k 9 = .ref (b + tgt X R k 9) := rfl
theorem vf0_10 : vf b 0 X I J R k 10 = .ref (b + tgt X R k 10) := rfl
theorem vf0_11 : vf b 0 X I J R k 11 = .ref (b + tgt X R k 11) := rfl
theorem vf0_12 : vf b 0 X I J R k 12 = .int (I k 12) := rfl
theorem vf1_0 : vf b 1 X I J R k 0 = .ref (b + tgt X R k 0) := rfl
theorem vf1_1 : vf b 1 X I J R k 1 = .ref (b + tgt X R k 1) := rfl
theorem vf1_2 : vf b 1 X I J R k 2 = .ref (b + tgt X R k 2) := rfl
theorem vf1_3 : vf b 1 X I J R k 3 = .ref (b + tgt X R k 3) := rfl
theorem vf1_4 : vf b 1 X I J R k 4 = .int (I k 4) := rfl
theorem vf2_0 : vf b 2 X I J R k 0 = .int (I k 0) := rfl
theorem vf2_1 : vf b 2 X I J R k 1 = .int (I k 1) := rfl
theorem vf2_2 : vf b 2 X I J R k 2 = .int (I k 2) := rfl
theorem vf2_3 : vf b 2 X I J R k 3 = .int (I k 3) := rfl
theorem vf2_4 : vf b 2 X I J R k 4 = .int (I k 4) := rfl
theorem vf2_5 : vf b 2 X I J R k 5 = .int (I k 5) := rfl
theorem vf2_6 : vf b 2 X I J R k 6 = .ref (b + tgt X R k 6) := rfl
theorem vf2_7 : vf b 2 X I J R k 7 = .int (I k 7) := rfl
theorem vf2_8 : vf b 2 X I J R k 8 = .ref (b + tgt X R k 8) := rfl
theorem vf2_9 : vf b 2 X I J R k 9 = .ref (b + tgt X R k 9) := rfl
theorem vf2_10 : vf b 2 X I J R k 10 = .ref (b + tgt X R k 10) := rfl
theorem vf2_11 : vf b 2 X I J R k 11 = .ref (b + tgt X R k 11) := rfl
theorem vf2_12 : vf b 2 X I J R k 12 = .int (I k 12) := rfl
theorem vf2_13 : vf b 2 X I J R k 13 = .ref (b + tgt X R k 13) := rfl
theorem vf2_14 : vf b 2 X I J R k 14 = .ref (b + tgt X R k 14) := rfl
theorem vf3_0 : vf b 3 X I J R k 0 = .ref (b + tgt X R k 0) := rfl
theorem vf3_1 : vf b 3 X I J R k 1 = .ref (b + tgt X R k 1) := rfl
theorem vf3_2 : vf b 3 X I J R k 2 = .int (I k 2) := rfl
theorem vf4_0 : vf b 4 X I J R k 0 = .ref (b + tgt X R k 0) := rfl
theorem vf4_1 : vf b 4 X I J R k 1 = .ref (b + tgt X R k 1) := rfl
theorem vf4_2 : vf b 4 X I J R k 2 = .ref (b + tgt X R k 2) := rfl
theorem vf4_3 : vf b 4 X I J R k 3 = .int (I k 3) := rfl
theorem vf4_4 : vf b 4 X I J R k 4 = .int (I k 4) := rfl
theorem vf4_5 : vf b 4 X I J R k 5 = .int (I k 5) := rfl
theorem vf4_6 : vf b 4 X I J R k 6 = .int (I k 6) := rfl
theorem vf4_7 : vf b 4 X I J R k 7 = .int (I k 7) := rfl
theorem vf4_8 : vf b 4 X I J R k 8 = .int (I k 8) := rfl
theorem vf4_9 : vf b 4 X I J R k 9 = .int (I k 9) := rfl
theorem vf5_0 : vf b 5 X I J R k 0 = .ref (b + tgt X R k 0) := rfl
theorem vf5_1 : vf b 5 X I J R k 1 = .int (I k 1) := rfl
theorem vf5_2 : vf b 5 X I J R k 2 = .ref (b + tgt X R k 2) := rfl
theorem vf5_3 : vf b 5 X I J R k 3 = .int (I k 3) := rfl
theorem vf5_4 : vf b 5 X I J R k 4 = .ref (b + tgt X R k 4) := rfl
theorem vf5_5 : vf b 5 X I J R k 5 = .ref (b + tgt X R k 5) := rfl
theorem vf5_6 : vf b 5 X I J R k 6 = .ref (b + tgt X R k 6) := rfl
theorem vf5_7 : vf b 5 X I J R k 7 = .ref (b + tgt X R k 7) := rfl
theorem vf5_8 : vf b 5 X I J R k 8 = .ref (b + tgt X R k 8) := rfl
theorem vf5_9 : vf b 5 X I J R k 9 = .ref (b + tgt X R k 9) := rfl
theorem vf5_10 : vf b 5 X I J R k 10 = .ref (b + tgt X R k 10) := rfl
theorem vf5_11 : vf b 5 X I J R k 11 = .ref (b + tgt X R k 11) := rfl
theorem vf5_12 : vf b 5 X I J R k 12 = .ref (b + tgt X R k 12) := rfl
theorem vf5_13 : vf b 5 X I J R k 13 = .ref (b + tgt X R k 13) := rfl
theorem vf5_14 : vf b 5 X I J R k 14 = .ref (b + tgt X R k 14) := rfl
theorem vf5_15 : vf b 5 X I J R k 15 = .ref (b + tgt X R k 15) := rfl
theorem vf5_16 : vf b 5 X I J R k 16 = .ref (b + tgt X R k 16) := rfl
theorem vf5_17 : vf b 5 X I J R k 17 = .ref (b + tgt X R k 17) := rfl
theorem vf6_0 : vf b 6 X I J R k 0 = .ref (b + tgt X R k 0) := rfl
theorem vf6_1 : vf b 6 X I J R k 1 = .ref (b + tgt X R k 1) := rfl
theorem vf6_2 : vf b 6 X I J R k 2 = .ref (b + tgt X R k 2) := rfl
theorem vf6_3 : vf b 6 X I J R k 3 = .ref (b + tgt X R k 3) := rfl
theorem vf6_4 : vf b 6 X I J R k 4 = .ref (b + tgt X R k 4) := rfl
theorem vf6_5 : vf b 6 X I J R k 5 = .ref (b + tgt X R k 5) := rfl
theorem vf6_6 : vf b 6 X I J R k 6 = .int (I k 6) := rfl
theorem vf7_0 : vf b 7 X I J R k 0 = .ref (b + tgt X R k 0) := rfl
theorem vf7_1 : vf b 7 X I J R k 1 = .ref (b + tgt X R k 1) := rfl
theorem vf7_2 : vf b 7 X I J R k 2 = .ref (b + tgt X R k 2) := rfl
theorem vf7_3 : vf b 7 X I J R k 3 = .ref (b + tgt X R k 3) := rfl
theorem vf7_4 : vf b 7 X I J R k 4 = .ref (b + tgt X R k 4) := rfl
theorem vf7_5 : vf b 7 X I J R k 5 = .ref (b + tgt X R k 5) := rfl
theorem vf7_6 : vf b 7 X I J R k 6 = .int (I k 6) := rfl
theorem vf7_7 : vf b 7 X I J R k 7 = .int (I k 7) := rfl
theorem vf8_0 : vf b 8 X I J R k 0 = .ref (b + tgt X R k 0) := rfl
theorem vf8_1 : vf b 8 X I J R k 1 = .ref (b + tgt X R k 1) := rfl
theorem vf8_2 : vf b 8 X I J R k 2 = .ref (b + tgt X R k 2) := rfl
theorem vf8_3 : vf b 8 X I J R k 3 = .ref (b + tgt X R k 3) := rfl
theorem vf8_4 : vf b 8 X I J R k 4 = .ref (b + tgt X R k 4) := rfl
theorem vf8_5 : vf b 8 X I J R k 5 = .ref (b + tgt X R k 5) := rfl
theorem vf8_6 : vf b 8 X I J R k 6 = .ref (b + tgt X R k 6) := rfl
theorem vf8_7 : vf b 8 X I J R k 7 = .ref (b + tgt X R k 7) := rfl
theorem vf8_8 : vf b 8 X I J R k 8 = .ref (b + tgt X R k 8) := rfl
theorem vf8_9 : vf b 8 X I J R k 9 = .int (I k 9) := rfl
theorem vf8_10 : vf b 8 X I J R k 10 = .int (I k 10) := rfl
theorem vf8_11 : vf b 8 X I J R k 11 = .int (I k 11) := rfl
theorem vf8_12 : vf b 8 X I J R k 12 = .int (I k 12) := rfl
theorem vf8_13 : vf b 8 X I J R k 13 = .ref (b + tgt X R k 13) := rfl
theorem vf8_14 : vf b 8 X I J R k 14 = .int (I k 14) := rfl
theorem vf8_15 : vf b 8 X I J R k 15 = .int (I k 15) := rfl
theorem vf9_0 : vf b 9 X I J R k 0 = .ref (b + tgt X R k 0) := rfl
theorem vf9_1 : vf b 9 X I J R k 1 = .ref (b + tgt X R k 1) := rfl
theorem vf9_2 : vf b 9 X I J R k 2 = .ref (b + tgt X R k 2) := rfl
theorem vf9_3 : vf b 9 X I J R k 3 = .int (I k 3) := rfl
theorem vf9_4 : vf b 9 X I J R k 4 = .int (I k 4) := rfl
theorem vf9_5 : vf b 9 X I J R k 5 = .int (I k 5) := rfl
theorem vf9_6 : vf b 9 X I J R k 6 = .int (I k 6) := rfl
theorem vf9_7 : vf b 9 X I J R k 7 = .int (I k 7) := rfl
theorem vf9_8 : vf b 9 X I J R k 8 = .int (I k 8) := rfl
theorem vf9_9 : vf b 9 X I J R k 9 = .ref (b + tgt X R k 9) := rfl
theorem vf9_10 : vf b 9 X I J R k 10 = .int (I k 10) := rfl
theorem vf9_11 : vf b 9 X I J R k 11 = .int (I k 11) := rfl
theorem vf9_12 : vf b 9 X I J R k 12 = .int (I k 12) := rfl
theorem vf10_0 : vf b 10 X I J R k 0 = .ref (b + tgt X R k 0) := rfl
theorem vf10_1 : vf b 10 X I J R k 1 = .int (I k 1) := rfl
theorem vf10_2 : vf b 10 X I J R k 2 = .ref (b + tgt X R k 2) := rfl
theorem vf10_3 : vf b 10 X I J R k 3 = .int (I k 3) := rfl
theorem vf10_4 : vf b 10 X I J R k 4 = .ref (b + tgt X R k 4) := rfl
theorem vf10_5 : vf b 10 X I J R k 5 = .ref (b + tgt X R k 5) := rfl
theorem vf10_6 : vf b 10 X I J R k 6 = .ref (b + tgt X R k 6) := rfl
theorem vf10_7 : vf b 10 X I J R k 7 = .ref (b + tgt X R k 7) := rfl
theorem vf10_8 : vf b 10 X I J R k 8 = .ref (b + tgt X R k 8) := rfl
theorem vf10_9 : vf b 10 X I J R k 9 = .ref (b + tgt X R k 9) := rfl
theorem vf10_10 : vf b 10 X I J R k 10 = .int (I k 10) := rfl
theorem vf10_11 : vf b 10 X I J R k 11 = .ref (b + tgt X R k 11) := rfl
theorem vf10_12 : vf b 10 X I J R k 12 = .ref (b + tgt X R k 12) := rfl
theorem vf10_13 : vf b 10 X I J R k 13 = .int (I k 13) := rfl
theorem vf12_0 : vf b 12 X I J R k 0 = .int (I k 0) := rfl
theorem vf12_1 : vf b 12 X I J R k 1 = .ref (b + tgt X R k 1) := rfl
theorem vf12_2 : vf b 12 X I J R k 2 = .int (I k 2) := rfl
theorem vf12_3 : vf b 12 X I J R k 3 = .ref (b + tgt X R k 3) := rfl
theorem vf12_4 : vf b 12 X I J R k 4 = .ref (b + tgt X R k 4) := rfl
theorem vf12_5 : vf b 12 X I J R k 5 = .ref (b + tgt X R k 5) := rfl
theorem vf12_6 : vf b 12 X I J R k 6 = .ref (b + tgt X R k 6) := rfl
theorem vf12_7 : vf b 12 X I J R k 7 = .ref (b + tgt X R k 7) := rfl
theorem vf12_8 : vf b 12 X I J R k 8 = .int (I k 8) := rfl
theorem vf12_9 : vf b 12 X I J R k 9 = .int (I k 9) := rfl
theorem vf12_10 : vf b 12 X I J R k 10 = .ref (b + tgt X R k 10) := rfl
theorem vf12_11 : vf b 12 X I J R k 11 = .ref (b + tgt X R k 11) := rfl
theorem vf12_12 : vf b 12 X I J R k 12 = .ref (b + tgt X R k 12) := rfl
theorem vf12_13 : vf b 12 X I J R k 13 = .int (I k 13) := rfl
theorem vf12_14 : vf b 12 X I J R k 14 = .int (I k 14) := rfl
theorem vf12_15 : vf b 12 X I J R k 15 = .int (I k 15) := rfl
theorem vf12_16 : vf b 12 X I J R k 16 = .int (I k 16) := rfl
theorem vf12_17 : vf b 12 X I J R k 17 = .int (I k 17) := rfl
theorem vf12_18 : vf b 12 X I J R k 18 = .int (I k 18) := rfl
theorem vf12_19 : vf b 12 X I J R k 19 = .int (I k 19) := rfl
theorem vf12_20 : vf b 12 X I J R k 20 = .int (I k 20) := rfl
theorem vf12_21 : vf b 12 X I J R k 21 = .ref (b + tgt X R k 21) := rfl
theorem vf12_22 : vf b 12 X I J R k 22 = .ref (b + tgt X R k 22) := rfl
theorem vf12_23 : vf b 12 X I J R k 23 = .ref (b + tgt X R k 23) := rfl
theorem vf12_24 : vf b 12 X I J R k 24 = .ref (b + tgt X R k 24) := rfl
theorem vf12_25 : vf b 12 X I J R k 25 = .ref (b + tgt X R k 25) := rfl
theorem vf12_26 : vf b 12 X I J R k 26 = .ref (b + tgt X R k 26) := rfl
theorem vf12_27 : vf b 12 X I J R k 27 = .ref (b + tgt X R k 27) := rfl
theorem vf12_28 : vf b 12 X I J R k 28 = .ref (b + tgt X R k 28) := rfl
theorem vf12_29 : vf b 12 X I J R k 29 = .int (I k 29) := rfl
theorem vf12_30 : vf b 12 X I J R k 30 = .int (I k 30) := rfl
theorem vf12_31 : vf b 12 X I J R k 31 = .int (I k 31) := rfl
theorem vf12_32 : vf b 12 X I J R k 32 = .int (I k 32) := rfl
theorem vf12_33 : vf b 12 X I J R k 33 = .int (I k 33) := rfl
theorem vf12_34 : vf b 12 X I J R k 34 = .int (I k 34) := rfl
theorem vf12_35 : vf b 12 X I J R k 35 = .ref (b + tgt X R k 35) := rfl
theorem vf12_36 : vf b 12 X I J R k 36 = .int (I k 36) := rfl
theorem vf12_37 : vf b 12 X I J R k 37 = .int (I k 37) := rfl
theorem vf12_38 : vf b 12 X I J R k 38 = .int (I k 38) := rfl
theorem vf12_39 : vf b 12 X I J R k 39 = .int (I k 39) := rfl
theorem vf12_40 : vf b 12 X I J R k 40 = .int (I k 40) := rfl
theorem vf12_41 : vf b 12 X I J R k 41 = .int (I k 41) := rfl
theorem vf12_42 : vf b 12 X I J R k 42 = .ref (b + tgt X R k 42) := rfl
theorem vf12_43 : vf b 12 X I J R k 43 = .ref (b + tgt X R k 43) := rfl
theorem vf12_44 : vf b 12 X I J R k 44 = .ref (b + tgt X R k 44) := rfl
theorem vf12_45 : vf b 12 X I J R k 45 = .ref (b + tgt X R k 45) := rfl
theorem vf12_46 : vf b 12 X I J R k 46 = .ref (b + tgt X R k 46) := rfl
theorem vf12_47 : vf b 12 X I J R k 47 = .ref (b + tgt X R k 47) := rfl
theorem vf12_48 : vf b 12 X I J R k 48 = .ref (b + tgt X R k 48) := rfl
theorem vf12_49 : vf b 12 X I J R k 49 = .ref (b + tgt X R k 49) := rfl
theorem vf12_50 : vf b 12 X I J R k 50 = .ref (b + tgt X R k 50) := rfl
theorem vf12_51 : vf b 12 X I J R k 51 = .ref (b + tgt X R k 51) := rfl
theorem vf12_52 : vf b 12 X I J R k 52 = .ref (b + tgt X R k 52) := rfl
theorem vf12_53 : vf b 12 X I J R k 53 = .ref (b + tgt X R k 53) := rfl
theorem vf12_54 : vf b 12 X I J R k 54 = .ref (b + tgt X R k 54) := rfl
theorem vf12_55 : vf b 12 X I J R k 55 = .ref (b + tgt X R k 55) := rfl
theorem vf12_56 : vf b 12 X I J R k 56 = .ref (b + tgt X R k 56) := rfl
theorem vf12_57 : vf b 12 X I J R k 57 = .ref (b + tgt X R k 57) := rfl
theorem vf12_58 : vf b 12 X I J R k 58 = .ref (b + tgt X R k 58) := rfl
theorem vf12_59 : vf b 12 X I J R k 59 = .ref (b + tgt X R k 59) := rfl
theorem vf12_60 : vf b 12 X I J R k 60 = .ref (b + tgt X R k 60) := rfl
theorem vf12_61 : vf b 12 X I J R k 61 = .ref (b + tgt X R k 61) := rfl
theorem vf12_62 : vf b 12 X I J R k 62 = .ref (b + tgt X R k 62) := rfl
theorem vf12_63 : vf b 12 X I J R k 63 = .ref (b + tgt X R k 63) := rfl
theorem vf12_64 : vf b 12 X I J R k 64 = .int (I k 64) := rfl
theorem vf12_65 : vf b 12 X I J R k 65 = .int (I k 65) := rfl
theorem vf12_66 : vf b 12 X I J R k 66 = .int (I k 66) := rfl
theorem vf12_67 : vf b 12 X I J R k 67 = .int (I k 67) := rfl
theorem vf12_68 : vf b 12 X I J R k 68 = .int (I k 68) := rfl
theorem vf12_69 : vf b 12 X I J R k 69 = .int (I k 69) := rfl
theorem vf12_70 : vf b 12 X I J R k 70 = .int (I k 70) := rfl
theorem vf12_71 : vf b 12 X I J R k 71 = .int (I k 71) := rfl
theorem vf12_72 : vf b 12 X I J R k 72 = .int (I k 72) := rfl
theorem vf12_73 : vf b 12 X I J R k 73 = .int (I k 73) := rfl
theorem vf12_74 : vf b 12 X I J R k 74 = .int (I k 74) := rfl
theorem vf12_75 : vf b 12 X I J R k 75 = .ref (b + tgt X R k 75) := rfl
theorem vf12_76 : vf b 12 X I J R k 76 = .ref (b + tgt X R k 76) := rfl
theorem vf12_77 : vf b 12 X I J R k 77 = .ref (b + tgt X R k 77) := rfl
theorem vf12_78 : vf b 12 X I J R k 78 = .ref (b + tgt X R k 78) := rfl
theorem vf12_79 : vf b 12 X I J R k 79 = .ref (b + tgt X R k 79) := rfl
theorem vf12_80 : vf b 12 X I J R k 80 = .int (I k 80) := rfl
theorem vf12_81 : vf b 12 X I J R k 81 = .int (I k 81) := rfl
theorem vf12_82 : vf b 12 X I J R k 82 = .int (I k 82) := rfl
theorem vf12_83 : vf b 12 X I J R k 83 = .int (I k 83) := rfl
theorem vf12_84 : vf b 12 X I J R k 84 = .int (I k 84) := rfl
theorem vf12_85 : vf b 12 X I J R k 85 = .int (I k 85) := rfl
theorem vf12_86 : vf b 12 X I J R k 86 = .int (I k 86) := rfl
theorem vf12_87 : vf b 12 X I J R k 87 = .int (I k 87) := rfl
theorem vf12_88 : vf b 12 X I J R k 88 = .int (I k 88) := rfl
theorem vf12_89 : vf b 12 X I J R k 89 = .ref (b + tgt X R k 89) := rfl
theorem vf12_90 : vf b 12 X I J R k 90 = .ref (b + tgt X R k 90) := rfl
theorem vf12_91 : vf b 12 X I J R k 91 = .ref (b + tgt X R k 91) := rfl
theorem vf12_92 : vf b 12 X I J R k 92 = .ref (b + tgt X R k 92) := rfl
theorem vf12_93 : vf b 12 X I J R k 93 = .ref (b + tgt X R k 93) := rfl
theorem vf12_94 : vf b 12 X I J R k 94 = .ref (b + tgt X R k 94) := rfl
theorem vf12_95 : vf b 12 X I J R k 95 = .ref (b + tgt X R k 95) := rfl
theorem vf12_96 : vf b 12 X I J R k 96 = .ref (b + tgt X R k 96) := rfl
theorem vf12_97 : vf b 12 X I J R k 97 = .ref (b + tgt X R k 97) := rfl
theorem vf12_98 : vf b 12 X I J R k 98 = .ref (b + tgt X R k 98) := rfl
theorem vf12_99 : vf b 12 X I J R k 99 = .ref (b + tgt X R k 99) := rfl
theorem vf12_100 : vf b 12 X I J R k 100 = .ref (b + tgt X R k 100) := rfl
theorem t0_0 : tgt X R 0 0 = 1 := rfl
theorem t0_2 : tgt X R 0 2 = 2 := rfl
theorem t0_4 : tgt X R 0 4 = 3 := rfl
theorem t0_5 : tgt X R 0 5 = 56 := rfl
theorem t0_6 : tgt X R 0 6 = 57 := rfl
theorem t0_7 : tgt X R 0 7 = 131 := rfl
theorem t0_8 : tgt X R 0 8 = R 0 8 := rfl
theorem t0_9 : tgt X R 0 9 = R 0 9 := rfl
theorem t0_11 : tgt X R 0 11 = R 0 11 := rfl
theorem t0_12 : tgt X R 0 12 = R 0 12 := rfl
theorem t3_0 : tgt X R 3 0 = 4 := rfl
theorem t3_1 : tgt X R 3 1 = 5 := rfl
theorem t3_2 : tgt X R 3 2 = 7 := rfl
theorem t3_3 : tgt X R 3 3 = 6 := rfl
theorem t3_4 : tgt X R 3 4 = 8 := rfl
theorem t3_5 : tgt X R 3 5 = 9 := rfl
theorem t10_0 : tgt X R 10 0 = 11 := rfl
theorem t10_2 : tgt X R 10 2 = 14 := rfl
theorem t10_4 : tgt X R 10 4 = 19 := rfl
theorem t10_5 : tgt X R 10 5 = 20 := rfl
theorem t10_6 : tgt X R 10 6 = 21 := rfl
theorem t10_7 : tgt X R 10 7 = 22 := rfl
theorem t10_8 : tgt X R 10 8 = 23 := rfl
theorem t10_9 : tgt X R 10 9 = 24 := rfl
theorem t10_10 : tgt X R 10 10 = 25 := rfl
theorem t10_11 : tgt X R 10 11 = 26 := rfl
theorem t10_12 : tgt X R 10 12 = 27 := rfl
theorem t10_13 : tgt X R 10 13 = 28 := rfl
theorem t10_14 : tgt X R 10 14 = 29 := rfl
theorem t10_15 : tgt X R 10 15 = 30 := rfl
theorem t10_16 : tgt X R 10 16 = 31 := rfl
theorem t10_17 : tgt X R 10 17 = 32 := rfl
theorem t11_0 : tgt X R 11 0 = 12 := rfl
theorem t11_1 : tgt X R 11 1 = 13 := rfl
theorem t14_0 : tgt X R 14 0 = 15 := rfl
theorem t14_1 : tgt X R 14 1 = 16 := rfl
theorem t14_2 : tgt X R 14 2 = 17 := rfl
theorem t14_3 : tgt X R 14 3 = 18 := rfl
theorem t33_0 : tgt X R 33 0 = 34 := rfl
theorem t33_2 : tgt X R 33 2 = 37 := rfl
theorem t33_4 : tgt X R 33 4 = 42 := rfl
theorem t33_5 : tgt X R 33 5 = 43 := rfl
theorem t33_6 : tgt X R 33 6 = 44 := rfl
theorem t33_7 : tgt X R 33 7 = 45 := rfl
theorem t33_8 : tgt X R 33 8 = 46 := rfl
theorem t33_9 : tgt X R 33 9 = 47 := rfl
theorem t33_10 : tgt X R 33 10 = 48 := rfl
theorem t33_11 : tgt X R 33 11 = 49 := rfl
theorem t33_12 : tgt X R 33 12 = 50 := rfl
theorem t33_13 : tgt X R 33 13 = 51 := rfl
theorem t33_14 : tgt X R 33 14 = 52 := rfl
theorem t33_15 : tgt X R 33 15 = 53 := rfl
theorem t33_16 : tgt X R 33 16 = 54 := rfl
theorem t33_17 : tgt X R 33 17 = 55 := rfl
theorem t34_0 : tgt X R 34 0 = 35 := rfl
theorem t34_1 : tgt X R 34 1 = 36 := rfl
theorem t37_0 : tgt X R 37 0 = 38 := rfl
theorem t37_1 : tgt X R 37 1 = 39 := rfl
theorem t37_2 : tgt X R 37 2 = 40 := rfl
theorem t37_3 : tgt X R 37 3 = 41 := rfl
theorem t56_0 : tgt X R 56 0 = 3 := rfl
theorem t56_1 : tgt X R 56 1 = R 56 1 := rfl
theorem t56_2 : tgt X R 56 2 = R 56 2 := rfl
theorem t57_0 : tgt X R 57 0 = R 57 0 := rfl
theorem t57_1 : tgt X R 57 1 = 58 := rfl
theorem t57_2 : tgt X R 57 2 = 65 := rfl
theorem t57_9 : tgt X R 57 9 = 130 := rfl
theorem t58_0 : tgt X R 58 0 = 59 := rfl
theorem t58_1 : tgt X R 58 1 = 60 := rfl
theorem t58_2 : tgt X R 58 2 = 61 := rfl
theorem t58_3 : tgt X R 58 3 = 62 := rfl
theorem t58_4 : tgt X R 58 4 = 63 := rfl
theorem t58_5 : tgt X R 58 5 = 64 := rfl
theorem t66_6 : tgt X R 66 6 = 67 := rfl
theorem t66_8 : tgt X R 66 8 = 68 := rfl
theorem t66_9 : tgt X R 66 9 = 69 := rfl
theorem t66_10 : tgt X R 66 10 = 70 := rfl
theorem t66_11 : tgt X R 66 11 = 71 := rfl
theorem t66_13 : tgt X R 66 13 = 72 := rfl
theorem t66_14 : tgt X R 66 14 = 73 := rfl
theorem t74_6 : tgt X R 74 6 = 75 := rfl
theorem t74_8 : tgt X R 74 8 = 76 := rfl
theorem t74_9 : tgt X R 74 9 = 77 := rfl
theorem t74_10 : tgt X R 74 10 = 78 := rfl
theorem t74_11 : tgt X R 74 11 = 79 := rfl
theorem t74_13 : tgt X R 74 13 = 80 := rfl
theorem t74_14 : tgt X R 74 14 = 81 := rfl
theorem t82_6 : tgt X R 82 6 = 83 := rfl
theorem t82_8 : tgt X R 82 8 = 84 := rfl
theorem t82_9 : tgt X R 82 9 = 85 := rfl
theorem t82_10 : tgt X R 82 10 = 86 := rfl
theorem t82_11 : tgt X R 82 11 = 87 := rfl
theorem t82_13 : tgt X R 82 13 = 88 := rfl
theorem t82_14 : tgt X R 82 14 = 89 := rfl
theorem t90_6 : tgt X R 90 6 = 91 := rfl
theorem t90_8 : tgt X R 90 8 = 92 := rfl
theorem t90_9 : tgt X R 90 9 = 93 := rfl
theorem t90_10 : tgt X R 90 10 = 94 := rfl
theorem t90_11 : tgt X R 90 11 = 95 := rfl
theorem t90_13 : tgt X R 90 13 = 96 := rfl
theorem t90_14 : tgt X R 90 14 = 97 := rfl
theorem t98_6 : tgt X R 98 6 = 99 := rfl
theorem t98_8 : tgt X R 98 8 = 100 := rfl
theorem t98_9 : tgt X R 98 9 = 101 := rfl
theorem t98_10 : tgt X R 98 10 = 102 := rfl
theorem t98_11 : tgt X R 98 11 = 103 := rfl
theorem t98_13 : tgt X R 98 13 = 104 := rfl
theorem t98_14 : tgt X R 98 14 = 105 := rfl
theorem t106_6 : tgt X R 106 6 = 107 := rfl
theorem t106_8 : tgt X R 106 8 = 108 := rfl
theorem t106_9 : tgt X R 106 9 = 109 := rfl
theorem t106_10 : tgt X R 106 10 = 110 := rfl
theorem t106_11 : tgt X R 106 11 = 111 := rfl
theorem t106_13 : tgt X R 106 13 = 112 := rfl
theorem t106_14 : tgt X R 106 14 = 113 := rfl
theorem t114_6 : tgt X R 114 6 = 115 := rfl
theorem t114_8 : tgt X R 114 8 = 116 := rfl
theorem t114_9 : tgt X R 114 9 = 117 := rfl
theorem t114_10 : tgt X R 114 10 = 118 := rfl
theorem t114_11 : tgt X R 114 11 = 119 := rfl
theorem t114_13 : tgt X R 114 13 = 120 := rfl
theorem t114_14 : tgt X R 114 14 = 121 := rfl
theorem t122_6 : tgt X R 122 6 = 123 := rfl
theorem t122_8 : tgt X R 122 8 = 124 := rfl
theorem t122_9 : tgt X R 122 9 = 125 := rfl
theorem t122_10 : tgt X R 122 10 = 126 := rfl
theorem t122_11 : tgt X R 122 11 = 127 := rfl
theorem t122_13 : tgt X R 122 13 = 128 := rfl
theorem t122_14 : tgt X R 122 14 = 129 := rfl
theorem t131_0 : tgt X R 131 0 = 132 := rfl
theorem t131_1 : tgt X R 131 1 = ad X 206 := rfl
theorem t131_2 : tgt X R 131 2 = 207 := rfl
theorem t131_3 : tgt X R 131 3 = 208 := rfl
theorem t131_4 : tgt X R 131 4 = 209 := rfl
theorem t131_5 : tgt X R 131 5 = 210 := rfl
theorem t131_6 : tgt X R 131 6 = 211 := rfl
theorem t131_7 : tgt X R 131 7 = 212 := rfl
theorem t131_8 : tgt X R 131 8 = 213 := rfl
theorem t131_13 : tgt X R 131 13 = 214 := rfl
theorem t132_0 : tgt X R 132 0 = R 132 0 := rfl
theorem t132_1 : tgt X R 132 1 = 133 := rfl
theorem t132_2 : tgt X R 132 2 = 140 := rfl
theorem t132_9 : tgt X R 132 9 = 205 := rfl
theorem t133_0 : tgt X R 133 0 = 134 := rfl
theorem t133_1 : tgt X R 133 1 = 135 := rfl
theorem t133_2 : tgt X R 133 2 = 136 := rfl
theorem t133_3 : tgt X R 133 3 = 137 := rfl
theorem t133_4 : tgt X R 133 4 = 138 := rfl
theorem t133_5 : tgt X R 133 5 = 139 := rfl
theorem t141_6 : tgt X R 141 6 = 142 := rfl
theorem t141_8 : tgt X R 141 8 = 143 := rfl
theorem t141_9 : tgt X R 141 9 = 144 := rfl
theorem t141_10 : tgt X R 141 10 = 145 := rfl
theorem t141_11 : tgt X R 141 11 = 146 := rfl
theorem t141_13 : tgt X R 141 13 = 147 := rfl
theorem t141_14 : tgt X R 141 14 = 148 := rfl
theorem t149_6 : tgt X R 149 6 = 150 := rfl
theorem t149_8 : tgt X R 149 8 = 151 := rfl
theorem t149_9 : tgt X R 149 9 = 152 := rfl
theorem t149_10 : tgt X R 149 10 = 153 := rfl
theorem t149_11 : tgt X R 149 11 = 154 := rfl
theorem t149_13 : tgt X R 149 13 = 155 := rfl
theorem t149_14 : tgt X R 149 14 = 156 := rfl
theorem t157_6 : tgt X R 157 6 = 158 := rfl
theorem t157_8 : tgt X R 157 8 = 159 := rfl
theorem t157_9 : tgt X R 157 9 = 160 := rfl
theorem t157_10 : tgt X R 157 10 = 161 := rfl
theorem t157_11 : tgt X R 157 11 = 162 := rfl
theorem t157_13 : tgt X R 157 13 = 163 := rfl
theorem t157_14 : tgt X R 157 14 = 164 := rfl
theorem t165_6 : tgt X R 165 6 = 166 := rfl
theorem t165_8 : tgt X R 165 8 = 167 := rfl
theorem t165_9 : tgt X R 165 9 = 168 := rfl
theorem t165_10 : tgt X R 165 10 = 169 := rfl
theorem t165_11 : tgt X R 165 11 = 170 := rfl
theorem t165_13 : tgt X R 165 13 = 171 := rfl
theorem t165_14 : tgt X R 165 14 = 172 := rfl
theorem t173_6 : tgt X R 173 6 = 174 := rfl
theorem t173_8 : tgt X R 173 8 = 175 := rfl
theorem t173_9 : tgt X R 173 9 = 176 := rfl
theorem t173_10 : tgt X R 173 10 = 177 := rfl
theorem t173_11 : tgt X R 173 11 = 178 := rfl
theorem t173_13 : tgt X R 173 13 = 179 := rfl
theorem t173_14 : tgt X R 173 14 = 180 := rfl
theorem t181_6 : tgt X R 181 6 = 182 := rfl
theorem t181_8 : tgt X R 181 8 = 183 := rfl
theorem t181_9 : tgt X R 181 9 = 184 := rfl
theorem t181_10 : tgt X R 181 10 = 185 := rfl
theorem t181_11 : tgt X R 181 11 = 186 := rfl
theorem t181_13 : tgt X R 181 13 = 187 := rfl
theorem t181_14 : tgt X R 181 14 = 188 := rfl
theorem t189_6 : tgt X R 189 6 = 190 := rfl
theorem t189_8 : tgt X R 189 8 = 191 := rfl
theorem t189_9 : tgt X R 189 9 = 192 := rfl
theorem t189_10 : tgt X R 189 10 = 193 := rfl
theorem t189_11 : tgt X R 189 11 = 194 := rfl
theorem t189_13 : tgt X R 189 13 = 195 := rfl
theorem t189_14 : tgt X R 189 14 = 196 := rfl
theorem t197_6 : tgt X R 197 6 = 198 := rfl
theorem t197_8 : tgt X R 197 8 = 199 := rfl
theorem t197_9 : tgt X R 197 9 = 200 := rfl
theorem t197_10 : tgt X R 197 10 = 201 := rfl
theorem t197_11 : tgt X R 197 11 = 202 := rfl
theorem t197_13 : tgt X R 197 13 = 203 := rfl
theorem t197_14 : tgt X R 197 14 = 204 := rfl
theorem t215_0 : tgt X R 215 0 = 216 := rfl
theorem t215_1 : tgt X R 215 1 = 219 := rfl
theorem t215_3 : tgt X R 215 3 = 220 := rfl
theorem t215_4 : tgt X R 215 4 = 221 := rfl
theorem t215_5 : tgt X R 215 5 = 222 := rfl
theorem t215_7 : tgt X R 215 7 = 223 := rfl
theorem t215_8 : tgt X R 215 8 = 224 := rfl
theorem t215_9 : tgt X R 215 9 = 225 := rfl
theorem t215_10 : tgt X R 215 10 = 226 := rfl
theorem t215_11 : tgt X R 215 11 = 227 := rfl
theorem t216_0 : tgt X R 216 0 = 217 := rfl
theorem t216_1 : tgt X R 216 1 = 218 := rfl
theorem t228_0 : tgt X R 228 0 = 229 := rfl
theorem t228_1 : tgt X R 228 1 = 232 := rfl
theorem t228_3 : tgt X R 228 3 = 233 := rfl
theorem t228_4 : tgt X R 228 4 = 234 := rfl
theorem t228_5 : tgt X R 228 5 = 235 := rfl
theorem t228_7 : tgt X R 228 7 = 236 := rfl
theorem t228_8 : tgt X R 228 8 = 237 := rfl
theorem t228_9 : tgt X R 228 9 = 238 := rfl
theorem t228_10 : tgt X R 228 10 = 239 := rfl
theorem t228_11 : tgt X R 228 11 = 240 := rfl
theorem t229_0 : tgt X R 229 0 = 230 := rfl
theorem t229_1 : tgt X R 229 1 = 231 := rfl
theorem t241_1 : tgt X R 241 1 = 242 := rfl
theorem t241_3 : tgt X R 241 3 = ad X 243 := rfl
theorem t241_4 : tgt X R 241 4 = ad X 244 := rfl
theorem t241_5 : tgt X R 241 5 = ad X 245 := rfl
theorem t241_6 : tgt X R 241 6 = ad X 246 := rfl
theorem t241_7 : tgt X R 241 7 = 247 := rfl
theorem t241_10 : tgt X R 241 10 = 248 := rfl
theorem t241_11 : tgt X R 241 11 = 249 := rfl
theorem t241_12 : tgt X R 241 12 = 250 := rfl
theorem t241_21 : tgt X R 241 21 = ad X 251 := rfl
theorem t241_22 : tgt X R 241 22 = ad X 252 := rfl
theorem t241_23 : tgt X R 241 23 = ad X 253 := rfl
theorem t241_24 : tgt X R 241 24 = ad X 254 := rfl
theorem t241_25 : tgt X R 241 25 = ad X 255 := rfl
theorem t241_26 : tgt X R 241 26 = ad X 256 := rfl
theorem t241_27 : tgt X R 241 27 = ad X 257 := rfl
theorem t241_28 : tgt X R 241 28 = ad X 258 := rfl
theorem t241_35 : tgt X R 241 35 = 259 := rfl
theorem t241_42 : tgt X R 241 42 = 260 := rfl
theorem t241_43 : tgt X R 241 43 = 261 := rfl
theorem t241_44 : tgt X R 241 44 = 262 := rfl
theorem t241_45 : tgt X R 241 45 = 263 := rfl
theorem t241_46 : tgt X R 241 46 = 264 := rfl
theorem t241_47 : tgt X R 241 47 = 265 := rfl
theorem t241_48 : tgt X R 241 48 = 266 := rfl
theorem t241_49 : tgt X R 241 49 = 267 := rfl
theorem t241_50 : tgt X R 241 50 = 268 := rfl
theorem t241_51 : tgt X R 241 51 = 269 := rfl
theorem t241_52 : tgt X R 241 52 = 270 := rfl
theorem t241_53 : tgt X R 241 53 = 271 := rfl
theorem t241_54 : tgt X R 241 54 = 272 := rfl
theorem t241_55 : tgt X R 241 55 = 273 := rfl
theorem t241_56 : tgt X R 241 56 = 274 := rfl
theorem t241_57 : tgt X R 241 57 = 275 := rfl
theorem t241_58 : tgt X R 241 58 = 276 := rfl
theorem t241_59 : tgt X R 241 59 = 277 := rfl
theorem t241_60 : tgt X R 241 60 = 278 := rfl
theorem t241_61 : tgt X R 241 61 = 279 := rfl
theorem t241_62 : tgt X R 241 62 = 280 := rfl
theorem t241_63 : tgt X R 241 63 = 281 := rfl
theorem t241_75 : tgt X R 241 75 = 282 := rfl
theorem t241_76 : tgt X R 241 76 = 283 := rfl
theorem t241_77 : tgt X R 241 77 = 284 := rfl
theorem t241_78 : tgt X R 241 78 = 285 := rfl
theorem t241_79 : tgt X R 241 79 = 286 := rfl
theorem t241_89 : tgt X R 241 89 = 287 := rfl
theorem t241_90 : tgt X R 241 90 = 288 := rfl
theorem t241_91 : tgt X R 241 91 = 289 := rfl
theorem t241_92 : tgt X R 241 92 = 290 := rfl
theorem t241_93 : tgt X R 241 93 = 291 := rfl
theorem t241_94 : tgt X R 241 94 = 292 := rfl
theorem t241_95 : tgt X R 241 95 = 293 := rfl
theorem t241_96 : tgt X R 241 96 = 294 := rfl
theorem t241_97 : tgt X R 241 97 = 295 := rfl
theorem t241_98 : tgt X R 241 98 = 296 := rfl
theorem t241_99 : tgt X R 241 99 = 297 := rfl
theorem t241_100 : tgt X R 241 100 = 298 := rfl
end PG
