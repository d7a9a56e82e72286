-- == 51.ty.lean.txt
section
/-! RANGES OF PLACES (found by wip/eng, printed by emit.py) -/
def kTy_0 : List (List (Int × Int)) := [[(1, 1), (85, 85), (0, 1), (169, 169), (178, 178), (181, 181), (189, 189), (191, 191), (192, 192)], [(2, 2), (14, 14), (17, 17), (30, 30), (0, 6), (34, 34), (35, 35), (42, 42), (0, 1763)], [(0, 239), (0, 16), (3, 3), (4, 4), (5, 5), (6, 6), (7, 7), (8, 8), (9, 9), ((-2147483648), 2147483647), ((-2147483648), 2147483647), (0, 20), ((-2147483648), 2147483647), (10, 10), (11, 11), (0, 24), ((-2147483648), 2147483647), (12, 12), (13, 13)], [], [], [], [], [], [], [], [], [], [], [], [(0, 6), (15, 15), (16, 16)], []]
def kTy_1 : List (List (Int × Int)) := [[], [(0, 24), (18, 18), (19, 19), (20, 20), (0, 8), ((-2147483648), 2147483647), (21, 21), (22, 22), (23, 23), (24, 24), (0, 16), (25, 25), (26, 26), (27, 27), (0, 12), (28, 28), (29, 29)], [], [], [], [], [], [], [], [], [], [], [], [], [(31, 31), (32, 32), (33, 33), (0, 8), ((-2147483648), 2147483647), ((-2147483648), 2147483647)], []]
def kTy_2 : List (List (Int × Int)) := [[], [], [(43, 43), (50, 50), (57, 57), (64, 64), (71, 71), (78, 78)], [(0, 0), (0, 0), (36, 36), (37, 37), (0, 0), (0, 0), (38, 38), (39, 39), ((-1), (-1)), (40, 40), (0, 0), (0, 0), (41, 41)], [], [], [], [], [], [], [], [(0, 239), (0, 9), (44, 44), (45, 45), ((-1), 2), (0, 3), (46, 46), (47, 47), ((-1), 999), (48, 48), ((-1), 999), (0, 220), (49, 49)], [], [], [], []]
def kTy_3 : List (List (Int × Int)) := [[], [], [(0, 239), (0, 9), (51, 51), (52, 52), ((-1), 2), (0, 3), (53, 53), (54, 54), ((-1), 999), (55, 55), ((-1), 999), (0, 220), (56, 56)], [], [], [], [], [], [], [(0, 239), (0, 9), (58, 58), (59, 59), ((-1), 2), (0, 3), (60, 60), (61, 61), ((-1), 999), (62, 62), ((-1), 999), (0, 220), (63, 63)], [], [], [], [], [], []]
def kTy_4 : List (List (Int × Int)) := [[(0, 239), (0, 9), (65, 65), (66, 66), ((-1), 2), (0, 3), (67, 67), (68, 68), ((-1), 999), (69, 69), ((-1), 999), (0, 220), (70, 70)], [], [], [], [], [], [], [(0, 239), (0, 9), (72, 72), (73, 73), ((-1), 2), (0, 3), (74, 74), (75, 75), ((-1), 999), (76, 76), ((-1), 999), (0, 220), (77, 77)], [], [], [], [], [], [], [(0, 239), (0, 9), (79, 79), (80, 80), ((-1), 2), (0, 3), (81, 81), (82, 82), ((-1), 999), (83, 83), ((-1), 999), (0, 220), (84, 84)], []]
def kTy_5 : List (List (Int × Int)) := [[], [], [], [], [], [(86, 86), (98, 98), (101, 101), (114, 114), (0, 6), (118, 118), (119, 119), (126, 126), (0, 0)], [(0, 239), (0, 16), (87, 87), (88, 88), (89, 89), (90, 90), (91, 91), (92, 92), (93, 93), ((-2147483648), 2147483647), ((-2147483648), 2147483647), (0, 20), ((-2147483648), 2147483647), (94, 94), (95, 95), (0, 24), ((-2147483648), 2147483647), (96, 96), (97, 97)], [], [], [], [], [], [], [], [], []]
def kTy_6 : List (List (Int × Int)) := [[], [], [(0, 6), (99, 99), (100, 100)], [], [], [(0, 24), (102, 102), (103, 103), (104, 104), (0, 8), ((-2147483648), 2147483647), (105, 105), (106, 106), (107, 107), (108, 108), (0, 16), (109, 109), (110, 110), (111, 111), (0, 12), (112, 112), (113, 113)], [], [], [], [], [], [], [], [], [], []]
def kTy_7 : List (List (Int × Int)) := [[], [], [(115, 115), (116, 116), (117, 117), (0, 8), ((-2147483648), 2147483647), ((-2147483648), 2147483647)], [], [], [], [(127, 127), (134, 134), (141, 141), (148, 148), (155, 155), (162, 162)], [(0, 0), (0, 0), (120, 120), (121, 121), (0, 0), (0, 0), (122, 122), (123, 123), ((-1), (-1)), (124, 124), (0, 0), (0, 0), (125, 125)], [], [], [], [], [], [], [], [(0, 239), (0, 9), (128, 128), (129, 129), ((-1), 2), (0, 3), (130, 130), (131, 131), ((-1), 999), (132, 132), ((-1), 999), (0, 220), (133, 133)]]
def kTy_8 : List (List (Int × Int)) := [[], [], [], [], [], [], [(0, 239), (0, 9), (135, 135), (136, 136), ((-1), 2), (0, 3), (137, 137), (138, 138), ((-1), 999), (139, 139), ((-1), 999), (0, 220), (140, 140)], [], [], [], [], [], [], [(0, 239), (0, 9), (142, 142), (143, 143), ((-1), 2), (0, 3), (144, 144), (145, 145), ((-1), 999), (146, 146), ((-1), 999), (0, 220), (147, 147)], [], []]
def kTy_9 : List (List (Int × Int)) := [[], [], [], [], [(0, 239), (0, 9), (149, 149), (150, 150), ((-1), 2), (0, 3), (151, 151), (152, 152), ((-1), 999), (153, 153), ((-1), 999), (0, 220), (154, 154)], [], [], [], [], [], [], [(0, 239), (0, 9), (156, 156), (157, 157), ((-1), 2), (0, 3), (158, 158), (159, 159), ((-1), 999), (160, 160), ((-1), 999), (0, 220), (161, 161)], [], [], [], []]
def kTy_10 : List (List (Int × Int)) := [[], [], [(0, 239), (0, 9), (163, 163), (164, 164), ((-1), 2), (0, 3), (165, 165), (166, 166), ((-1), 999), (167, 167), ((-1), 999), (0, 220), (168, 168)], [], [], [], [], [], [], [(0, 220), (170, 170), (171, 171), (0, 3), (0, 220), (0, 220), ((-2147483648), 2147483647), ((-1), 220)], [], [(0, 0), (0, 9), (172, 172), (173, 173), ((-1), 2), (0, 3), (174, 174), (175, 175), ((-1), 999), (176, 176), ((-1), 999), (0, 220), (177, 177)], [], [], [], []]
def kTy_11 : List (List (Int × Int)) := [[], [], [(0, 8), (179, 179), (180, 180)], [], [], [(182, 182), (183, 183), (184, 184)], [], [], [(185, 185), (186, 186), (187, 187), (188, 188)], [], [], [], [], [(0, 30), (190, 190), (0, 9), ((-2147483648), 2147483647), ((-2147483648), 2147483647), (0, 1)], [], []]
def kTy_12 : List (List (Int × Int)) := [[], [(194, 194), (195, 195), (0, 1), (196, 196), (0, 220), (197, 197), ((-1), 1764), (0, 220), (0, 220), (0, 220), (0, 62), ((-2147483648), 2147483647), ((-1), 220), (0, 4), (0, 1), ((-2147483648), 2147483647), (0, 5), (0, 3), (0, 239), (198, 198), (199, 199), (0, 9), (0, 2), (200, 200), (201, 201), (0, 3), ((-1), 999), (202, 202), (0, 999), (0, 1), (203, 203), (0, 1152), ((-9223372036854775808), 9223372036854775807), (204, 204), (0, 8), (205, 205), (206, 206), (207, 207), (208, 208), (209, 209), (210, 210), (211, 211), (0, 30), ((-2), 6), (0, 23), (0, 99999), (0, 1)], [], [], [], [], [], [], [], [], [], [], [], [], [], []]
def kTy_13 : List (List (Int × Int)) := [[], [], [], []]
def kTy : List (List (List (Int × Int))) := [kTy_0, kTy_1, kTy_2, kTy_3, kTy_4, kTy_5, kTy_6, kTy_7, kTy_8, kTy_9, kTy_10, kTy_11, kTy_12, kTy_13]
def kUn_0 : List (Option (Int × Int)) := [none, none, none, some (0, 7), some (0, 4095), some (0, 9), some ((-2147483648), 2147483647), some ((-1000), 999), some (0, 9), some ((-1), 7), some (0, 15), some (0, 239), some (0, 7), some (0, 239), none, some (0, 4)]
def kUn_1 : List (Option (Int × Int)) := [some (0, 4095), none, some (0, 2147483647), some (0, 999), some (0, 239), some (0, 5), some ((-2147483648), 2147483647), some (0, 239), some (0, 239), some (0, 5), some (0, 239), some (0, 99999), some (0, 2147483647), some (0, 9999), none, some (0, 9999)]
def kUn_2 : List (Option (Int × Int)) := [some (0, 333333), some ((-2147483648), 2147483647), none, none, some (0, 0), some (0, 0), some (0, 0), some (0, 0), some (100, 100), some (0, 0), some (0, 207), none, some (0, 5), some ((-9), 999), some ((-1), 999), some ((-1), 999)]
def kUn_3 : List (Option (Int × Int)) := [some ((-1), 999), some ((-4), 65535), none, some (0, 5), some ((-9), 999), some ((-1), 999), some ((-1), 999), some ((-1), 999), some ((-4), 65535), none, some (0, 5), some ((-9), 999), some ((-1), 999), some ((-1), 999), some ((-1), 999), some ((-4), 65535)]
def kUn_4 : List (Option (Int × Int)) := [none, some (0, 5), some ((-9), 999), some ((-1), 999), some ((-1), 999), some ((-1), 999), some ((-4), 65535), none, some (0, 5), some ((-9), 999), some ((-1), 999), some ((-1), 999), some ((-1), 999), some ((-4), 65535), none, some (0, 5)]
def kUn_5 : List (Option (Int × Int)) := [some ((-9), 999), some ((-1), 999), some ((-1), 999), some ((-1), 999), some ((-4), 65535), none, none, some (0, 7), some (0, 4095), some (0, 9), some ((-2147483648), 2147483647), some ((-1000), 999), some (0, 9), some ((-1), 7), some (0, 15), some (0, 239)]
def kUn_6 : List (Option (Int × Int)) := [some (0, 7), some (0, 239), none, some (0, 4), some (0, 4095), none, some (0, 2147483647), some (0, 999), some (0, 239), some (0, 5), some ((-2147483648), 2147483647), some (0, 239), some (0, 239), some (0, 5), some (0, 239), some (0, 99999)]
def kUn_7 : List (Option (Int × Int)) := [some (0, 2147483647), some (0, 9999), none, some (0, 9999), some (0, 333333), some ((-2147483648), 2147483647), none, none, some (0, 0), some (0, 0), some (0, 0), some (0, 0), some (100, 100), some (0, 0), some (0, 0), none]
def kUn_8 : List (Option (Int × Int)) := [some (0, 5), some ((-9), 999), some ((-1), 999), some ((-1), 999), some ((-1), 999), some ((-4), 65535), none, some (0, 5), some ((-9), 999), some ((-1), 999), some ((-1), 999), some ((-1), 999), some ((-4), 65535), none, some (0, 5), some ((-9), 999)]
def kUn_9 : List (Option (Int × Int)) := [some ((-1), 999), some ((-1), 999), some ((-1), 999), some ((-4), 65535), none, some (0, 5), some ((-9), 999), some ((-1), 999), some ((-1), 999), some ((-1), 999), some ((-4), 65535), none, some (0, 5), some ((-9), 999), some ((-1), 999), some ((-1), 999)]
def kUn_10 : List (Option (Int × Int)) := [some ((-1), 999), some ((-4), 65535), none, some (0, 5), some ((-9), 999), some ((-1), 999), some ((-1), 999), some ((-1), 999), some ((-4), 65535), none, some (0, 255), none, some (0, 5), some ((-9), 999), some ((-1), 999), some ((-1), 999)]
def kUn_11 : List (Option (Int × Int)) := [some ((-1), 999), some ((-4), 65535), none, some ((-2147483648), 2147483647), some ((-2147483648), 2147483647), none, some ((-1), 3), some (0, 40), none, some ((-2147483648), 2147483647), some ((-2147483648), 2147483647), some ((-2147483648), 2147483647), some ((-2147483648), 2147483647), none, some (0, 99), some (0, 4)]
def kUn_12 : List (Option (Int × Int)) := [some ((-2147483648), 2147483647), none, none, none, some (0, 255), none, some ((-2147483648), 2147483647), some ((-9), 999), some (0, 999), some (0, 999), some (0, 999), some (0, 144), some ((-2147483648), 2147483647), some ((-1), 7), some (0, 3), some (0, 40)]
def kUn_13 : List (Option (Int × Int)) := [some ((-2147483648), 2147483647), some (0, 4), some (0, 23), some (0, 99)]
def kUn : List (List (Option (Int × Int))) := [kUn_0, kUn_1, kUn_2, kUn_3, kUn_4, kUn_5, kUn_6, kUn_7, kUn_8, kUn_9, kUn_10, kUn_11, kUn_12, kUn_13]
def kLet : List (List (Int × Int)) := [[(115, 115), (104, 104), (97, 97), (114, 114), (101, 101), (0, 0), (114, 114), (97, 97), (116, 116), (101, 101), (0, 0), (109, 109), (111, 111), (115, 115), (116, 116), (0, 0)], [(108, 108), (97, 97), (110, 110), (100, 100), (0, 0), (105, 105), (110, 110), (116, 116), (101, 101), (114, 114), (101, 101), (115, 115), (116, 116), (0, 0), (102, 102), (114, 114)], [(101, 101), (101, 101), (0, 0), (98, 98), (121, 121), (0, 0), (111, 111), (118, 118), (101, 101), (114, 114), (0, 0), (112, 112), (97, 97), (121, 121), (115, 115), (0, 0)], [(105, 105), (102, 102), (0, 0), (104, 104), (101, 101), (97, 97), (100, 100), (115, 115), (0, 0), (107, 107), (105, 105), (110, 110), (0, 0), (119, 119), (111, 111), (114, 114)], [(116, 116), (104, 104), (0, 0), (111, 111), (114, 114), (0, 0), (97, 97), (110, 110), (100, 100), (0, 0), (110, 110), (111, 111), (116, 116), (0, 0), (102, 102), (97, 97)], [(118, 118), (111, 111), (117, 117), (114, 114), (101, 101), (100, 100), (0, 0), (98, 98), (111, 111), (120, 120), (101, 101), (115, 115), (0, 0), (109, 109), (97, 97), (107, 107)], [(101, 101), (114, 114), (0, 0), (109, 109), (111, 111), (110, 110), (116, 116), (104, 104), (0, 0)]]
def kD_194 : List (Int × Int) := [(0, 239), (0, 16), (0, 20), (0, 6), (0, 6), (0, 24), (0, 8), (0, 16), (0, 12), (0, 8), (0, 24)]
def tyD_194 (j : Nat) : Int × Int := if j < 16 then (if j < 11 then kD_194.getD j r32 else (0, 0)) else if j < 144 then (if (j - 16) % 8 = 0 then (0, 7) else if (j - 16) % 8 = 1 then (0, 9) else if (j - 16) % 8 = 2 then (0, 9) else ((-2147483648), 2147483647)) else if j < 276 then (0, 239) else if j < 306 then (if (j - 276) % 5 = 0 then (0, 4) else (0, 4095)) else if j < 426 then (0, 999) else if j < 466 then (0, 239) else if j < 514 then (0, 99999) else if j < 574 then (0, 9999) else if j < 582 then (0, 9999) else if j < 588 then (0, 333333) else if j < 636 then (0, 1) else if j < 652 then (0, 9999) else if j < 658 then (0, 239) else if j < 664 then (0, 220) else if j < 1984 then (0, 255) else r32
def kD_195 : List (Int × Int) := [(0, 239), (0, 16), (0, 20), (0, 6), (0, 6), (0, 24), (0, 8), (0, 16), (0, 12), (0, 8), (0, 24)]
def tyD_195 (j : Nat) : Int × Int := if j < 16 then (if j < 11 then kD_195.getD j r32 else (0, 0)) else if j < 144 then (if (j - 16) % 8 = 0 then (0, 7) else if (j - 16) % 8 = 1 then (0, 9) else if (j - 16) % 8 = 2 then (0, 9) else ((-2147483648), 2147483647)) else if j < 276 then (0, 239) else if j < 306 then (if (j - 276) % 5 = 0 then (0, 4) else (0, 4095)) else if j < 426 then (0, 999) else if j < 466 then (0, 239) else if j < 514 then (0, 99999) else if j < 574 then (0, 9999) else if j < 582 then (0, 9999) else if j < 588 then (0, 333333) else if j < 636 then (0, 1) else if j < 652 then (0, 9999) else if j < 658 then (0, 239) else if j < 664 then (0, 220) else if j < 1984 then (0, 255) else r32
def gT : aG := (fun a j => if a = 194 then tyD_194 j else if a = 195 then tyD_195 j else if a = 197 then (kLet.getD (j / 16) []).getD (j % 16) r32 else ((kTy.getD (a / 16) []).getD (a % 16) []).getD j r32, fun a => (kUn.getD (a / 16) []).getD (a % 16) none)
def cells0 (k : Nat) : Nat := match k with
  | 1 => 1
  | 11 => 2
  | 19 => 83
  | 44 => 11
  | 58 => 2
  | 65 => 7
  | 74 => 3
  | 80 => 8
  | 97 => 6
  | 106 => 12
  | 122 => 192
  | 183 => 18
  | _ => 0
abbrev aSp : Type := Nat → Nat → aS → Option (Fm × List Int)
def sp0 : aSp := fun _ _ _ => none
def spL (j : Nat) (cs : List Int) (S : aS) : Option (Fm × List Int) := (S.1.lookup j).map fun v => (v.2, cs)
def spS (i : Nat) (cs : List Int) (S : aS) : Option (Fm × List Int) := (S.2.1[i]?).map fun v => (v.2, cs)
def spD (cs : List Int) (S : aS) : Option (Fm × List Int) := match S.2.1 with
  | y :: x :: _ => some (fsub x.2 y.2, cs)
  | _ => none
def spP (a j : Nat) (cs : List Int) (S : aS) : Option (Fm × List Int) := (clook a j (cC S.2.2)).map fun f => (f, cs)
end
-- == 52.free.lean.txt
section
/-! THE FREE ROW OF THE REFERENCE: eight rows, seven that may be taken; each round finds the row of this number taken, or ends -/
/-- n numbers do not go into fewer places -/
theorem pig1 : ∀ (n : Nat) (f : Nat → Int), (∀ v : Nat, v < n + 1 → ∃ i, i < n ∧ f i = (v : Int)) → False
  | 0, f, H => by
    obtain ⟨i, hi, _⟩ := H 0 (by omega)
    omega
  | n + 1, f, H => by
    obtain ⟨i0, h0, e0⟩ := H (n + 1) (by omega)
    refine pig1 n (fun i => if i = i0 then f n else f i) (fun v hv => ?_)
    obtain ⟨i, hi, e⟩ := H v (by omega)
    have hne : i ≠ i0 := fun q => by rw [q, e0] at e; omega
    by_cases hl : i = n
    · subst hl
      refine ⟨i0, by omega, ?_⟩
      rw [if_pos rfl]; exact e
    · refine ⟨i, by omega, ?_⟩
      rw [if_neg hne]; exact e
theorem pig (f : Nat → Int) (s : Nat) (hs : s < 8) (h : f s = -1) (H : ∀ v : Nat, v < 8 → ∃ i, i < 8 ∧ f i = (v : Int)) : False := by
  refine pig1 7 (fun i => if i = s then f 7 else f i) (fun v hv => ?_)
  obtain ⟨i, hi, e⟩ := H v hv
  have hne : i ≠ s := fun q => by rw [q, h] at e; omega
  by_cases hl : i = 7
  · subst hl
    refine ⟨s, by omega, ?_⟩
    rw [if_pos rfl]; exact e
  · refine ⟨i, by omega, ?_⟩
    rw [if_neg hne]; exact e
def frPl (i : Nat) : Nat × Nat := (if i < 4 then 205 else 210, i % 4)
def frP (s : Nat) : List (Nat × Nat) := ((List.range 8).filter fun i => i != s).map frPl
def frC (s : Nat) (ps : List (Nat × Nat)) : aC := ([(0, 7)], [], ((205, s), ((-1), [])) :: ps.map (fun p => (p, fid 0)), 212)
def frI0 (s k : Nat) : Nat × aS × Fm := (12, ([(0, (2, fcon 193)), (1, (0, fid 0)), (2, (0, fcon 0)), (3, (0, fcon k))], [], frC s []), fcon (10 - k))
def frI1 (s k : Nat) (p : Nat × Nat) : Nat × aS × Fm := (12, ([(0, (2, fcon 193)), (1, (0, fid 0)), (2, (0, fcon 1)), (3, (0, fcon k))], [], frC s [p]), fcon (10 - k))
def frO (s : Nat) : Nat × aS × Fm := (4, ([(0, (2, fcon 193)), (1, (0, fid 0)), (2, (0, fcon 1))], [], frC s []), fcon 20)
def frX (s : Nat) : Nat × aS × Fm := (4, ([(0, (2, fcon 193)), (1, (0, fid 0)), (2, (0, fcon 0))], [], frC s []), fcon 0)
def frN (s : Nat) (p : Nat × Nat) : Nat × aS × Fm := (4, ([(0, (2, fcon 193)), (1, (0, (1, [(0, 1)]))), (2, (0, fcon 1))], [], frC s [p]), fcon 0)
def frE (s : Nat) : Nat × aS × Fm := (4, ([(0, (2, fcon 193)), (1, (0, fcon 0)), (2, (0, fcon 1))], [], ([], [], [((205, s), ((-1), []))], 212)), fcon 0)
def frH (s : Nat) : List (Nat × aS × Fm) := frO s :: ((List.range 5).map (frI0 s) ++ (List.range 5).flatMap fun k => ((frP s).filter fun p => decide (p.2 < k)).map (frI1 s k))
def frEx (s : Nat) : List (Nat × aS × Fm) := frX s :: (frP s).map (frN s)
def frPo : List aPost := [(([(0, 7)], [], [], 212), some (0, (0, [(0, 1)])))]
def frK (s : Nat) : aCt := (272, 3, some [], false, ([], [], [((205, s), ((-1), []))], 212), [(2, (193, []))], frPo)
def frW (s : Nat) (hd ex : List (Nat × aS × Fm)) (m0 : Nat) (H : Nat × aS × Fm) : Bool := okP H.2.1 && (decide (m0 ≤ (eC H.2.1.2.2).length) && (wfB (eC H.2.1.2.2).length H.2.2 && (match tkF H.1 0 (tk 272) with
      | some ts => arun (gT, some [], false, [], hd ++ ex, m0, frPo, (fun _ => 0), some H.2.2, sp0) 400 3 [] 272 212 212 1 H.1 ts H.2.1
      | none => false)))
theorem fr_h0 : ((frH 0).all (frW 0 (frH 0) (frEx 0) 1)) = true := by decide +kernel
theorem fr_h1 : ((frH 1).all (frW 1 (frH 1) (frEx 1) 1)) = true := by decide +kernel
theorem fr_h2 : ((frH 2).all (frW 2 (frH 2) (frEx 2) 1)) = true := by decide +kernel
theorem fr_h3 : ((frH 3).all (frW 3 (frH 3) (frEx 3) 1)) = true := by decide +kernel
theorem fr_h (s : Nat) (hs : s < 4) : ((frH s).all (frW s (frH s) (frEx s) 1)) = true := by
  match s, hs with
  | 0, _ => exact fr_h0
  | 1, _ => exact fr_h1
  | 2, _ => exact fr_h2
  | 3, _ => exact fr_h3
theorem fr_x : ∀ s, s < 4 → (([frX s]).all (frW s [frX s] [] 1)) = true := by decide +kernel
theorem fr_e : ∀ s, s < 4 → arun (gT, some [], false, [], [frE s], 0, frPo, (fun _ => 0), none, sp0) 400 3 [] 272 212 212 0 0 (tk 272) (aargs 0 [(2, (193, []))], [], ([], [], [((205, s), ((-1), []))], 212)) = true := by decide +kernel
theorem fr_pw : PW (PofW gT (some []) false) := pwB_ok (by decide +kernel)
theorem frPl_sh : ∀ i, i < 8 → (frPl i).1 < 212 := by decide
theorem free_keeps (s : Nat) (hs : s < 4) (hB : BytesOK) (g : bG) (l : Launch) : Keeps g l gT (frK s) := by
  intro d hl ρ h Q hc hQ
  obtain ⟨D, rfl⟩ : ∃ D, d = D + 3 := ⟨d - 3, by have : 3 ≤ d := hl; omega⟩
  have hC : ∀ z ∈ ([] : List aCt), Keeps g l gT z := nilK
  have hpost : ∀ (ρ0 : Nat → Int) (m : Nat), ∀ p ∈ frPo, ∀ (ρ' : Nat → Int) (h' : bH), core (PofW gT (some []) false) (gsc g) h ρ' h' p.1 → ext m ρ0 ρ' → Q (evR ρ' p.2) h' := fun ρ0 m p hp ρ' h' h1 _ => hQ _ _ ⟨p, hp, ρ', (fun i hi => absurd hi (Nat.not_lt_zero i)), h1, rfl⟩
  have hh : ∀ {ρ' : Nat → Int} {h' : bH} {C : aC}, core (PofW gT (some []) false) (gsc g) h ρ' h' C → h' = h := fun q => funext fun a => funext fun j => q.2.2.2.2.1 a j rfl
  have hs1 : h 205 s = -1 := by
    have := (hc.2.2.1 ((205, s), ((-1), [])) List.mem_cons_self).2
    exact this
  have hty : ∀ a j, a < 212 → j < (sh a).2 → (a, j) ≠ (205, s) → (tyP (PofW gT (some []) false) a j).1 ≤ h a j ∧ h a j ≤ (tyP (PofW gT (some []) false) a j).2 := fun a j h1 h2 h3 => hc.2.2.2.1 a j h1 h2 (fun c hc e => by
    have : c = ((205, s), ((-1), [])) := List.mem_singleton.mp hc
    subst this
    exact h3 e.symm)
  -- the end
  have hend : ∀ (ρ' : Nat → Int) (h' : bH), aIn (PofW gT (some []) false) (gsc g) h ρ' h' (frX s).2.1 → WP g l (D + 3) 272 212 212 Q (conc ρ' 4 212 h' (frX s).2.1) := fun ρ' h' hi =>
    key_in (ρ0 := ρ') (ex := []) (hd := [frX s]) fr_pw hB.1 hB.2 hC (fun H hm => List.all_eq_true.mp (fr_x s hs) H hm) (fun H hm => by cases hm) (hpost ρ' 1) 1 (frX s) List.mem_cons_self ρ' h' hi (fun _ _ => rfl) (by show (0 : Int) ≤ ev ρ' (fcon 0); rw [fcon_ev]; omega) (by show (ev ρ' (fcon 0)).toNat < 1; rw [fcon_ev]; decide)
  -- the rounds
  have key : ∀ (n c : Nat), c + n = 8 → (∀ v : Nat, v < c → ∃ i, i < 8 ∧ h (frPl i).1 (frPl i).2 = (v : Int)) → WP g l (D + 3) 272 212 212 Q (conc (fun _ => (c : Int)) 4 212 h (frO s).2.1) := by
    intro n
    induction n with
    | zero =>
      intro c hcn hP
      have : c = 8 := by omega
      subst this
      refine absurd (pig (fun i => h (frPl i).1 (frPl i).2) s (by omega) ?_ hP) id
      show h (frPl s).1 (frPl s).2 = -1
      have e : frPl s = (205, s) := by
        unfold frPl
        rw [if_pos hs, Nat.mod_eq_of_lt hs]
      rw [e]
      exact hs1
    | succ n ih =>
      intro c hcn hP
      have hin : aIn (PofW gT (some []) false) (gsc g) h (fun _ => (c : Int)) h (frO s).2.1 := by
        refine ⟨⟨fun i hi => ?_, fun f hf => (by cases hf), fun q hq => ?_, fun a j h1 h2 h3 => ?_, fun _ _ _ => rfl, fun hp => (by cases hp)⟩, ?_, fun v hv => (by cases hv)⟩
        · have hi : i < 1 := hi
          have : i = 0 := by omega
          subst this
          show (0 : Int) ≤ (c : Int) ∧ (c : Int) ≤ 7
          omega
        · have : q = ((205, s), ((-1), [])) := List.mem_singleton.mp hq
          subst this
          exact ⟨fun t ht => (by cases ht), hs1⟩
        · exact hty a j h1 h2 (fun e => h3 ((205, s), ((-1), [])) List.mem_cons_self e.symm)
        · exact (okP_x (T := (frO s).2.1) (by rfl)).1
      refine key_in (ρ0 := fun _ => (c : Int)) (ex := frEx s) (hd := frH s) fr_pw hB.1 hB.2 hC (fun H hm => List.all_eq_true.mp (fr_h s hs) H hm) ?_ (hpost _ 1) 21 (frO s) List.mem_cons_self _ h hin (fun _ _ => rfl) (by show (0 : Int) ≤ ev _ (fcon 20); rw [fcon_ev]; omega) (by show (ev _ (fcon 20)).toNat < 21; rw [fcon_ev]; decide)
      intro H hm ρ' h' hi hx
      rcases List.mem_cons.mp hm with rfl | hm
      · exact hend ρ' h' hi
      · obtain ⟨p, hp, rfl⟩ := List.mem_map.mp hm
        have e0 : ρ' 0 = (c : Int) := hx 0 (by decide)
        have eh := hh hi.1
        subst eh
        have hpv : h' p.1 p.2 = (c : Int) := by
          have := (hi.1.2.2.1 (p, fid 0) (List.mem_cons_of_mem _ (List.mem_singleton.mpr rfl))).2
          rw [fid_ev, e0] at this
          exact this
        obtain ⟨i, hi2, rfl⟩ := List.mem_map.mp hp
        have hi8 : i < 8 := List.mem_range.mp (List.mem_filter.mp hi2).1
        have := ih (c + 1) (by omega) (fun v hv => by
          by_cases e : v = c
          · subst e; exact ⟨i, hi8, hpv⟩
          · exact hP v (by omega))
        have ec : conc ρ' 4 212 h' (frN s (frPl i)).2.1 = conc (fun _ => ((c + 1 : Nat) : Int)) 4 212 h' (frO s).2.1 := by
          unfold conc frN frO evL evS
          simp only [List.map_cons, List.map_nil, fcon_ev, fid_ev]
          have : ev ρ' ((1, [(0, 1)]) : Fm) = ((c + 1 : Nat) : Int) := by
            simp [ev, evT, e0]
            omega
          rw [this]
        show WP g l (D + 3) 272 212 212 Q (conc ρ' 4 212 h' (frN s (frPl i)).2.1)
        rw [ec]
        exact this
  refine mh_of (hB.2 272 (by decide)) (by rw [astw_ev]; show astw [(2, ((193, []) : Fm))] ≤ mml 272; decide +kernel) (Nat.le_refl _) ?_
  have hyp : aHyp g l (gT, some [], false, [], [frE s], 0, frPo, (fun _ => 0), none, sp0) h ρ 0 D 3 272 212 212 Q := by
    refine ⟨fr_pw, hB.1, hB.2, hC, ?_, hpost ρ 0⟩
    intro H hm ρ' h' a1 a2 a3 a4
    have : H = frE s := List.mem_singleton.mp hm
    subst this
    have eh := hh a1.1
    subst eh
    have := key 8 0 rfl (fun v hv => absurd hv (Nat.not_lt_zero v))
    have ec : conc ρ' 4 212 h' (frE s).2.1 = conc (fun _ => ((0 : Nat) : Int)) 4 212 h' (frO s).2.1 := by
      unfold conc frE frO evL evS
      simp only [List.map_cons, List.map_nil, fcon_ev, fid_ev]
      rfl
    show WP g l (D + 3) 272 212 212 Q (conc ρ' 4 212 h' (frE s).2.1)
    rw [ec]
    exact this
  have := arun_ok hyp 400 3 [] 272 212 212 0 0 (tk 272) (aargs 0 [(2, (193, []))], [], ([], [], [((205, s), ((-1), []))], 212)) ρ h (fr_e s hs) ⟨⟨hc, (fun q hq => by
    have : q = (0, (2, ((193, []) : Fm))) := List.mem_singleton.mp hq
    subst this
    exact fun t ht => by cases ht), fun v hv => by cases hv⟩, fun _ _ => rfl, Nat.le_refl _, fun u hu => by cases hu⟩ (fun z hz => by cases hz) ⟨rfl, rfl, rfl, rfl⟩ (hB.1 _)
  unfold conc at this
  dsimp only at this
  rw [aargs_ev] at this
  exact this
end
-- == 53.copy.lean.txt
section
/-! THE REFERENCE'S COPIES (keep, again), BY HAND: all places at once -/
/-- a contract with what it means besides -/
def SK (g : bG) (l : Launch) (G : aG) (c : aCt) (Sem : List bV → bH → Option bV → bH → Prop) : Prop := ∀ (d : Nat), ctL c ≤ d → ∀ (ρ : Nat → Int) (h : bH) (Q : bQ), core (PofW G (ctW c) (ctS c)) (gsc g) h ρ h (ctC c) → (∀ r h', isPost G c (gsc g) h ρ r h' → Sem (evS ρ (ctA c)) h r h' → Q r h') → MH g l d (ctK c) (nC (ctC c)) (ctN c) (evS ρ (ctA c)) h Q
theorem SK_k {g : bG} {l : Launch} {G : aG} {c : aCt} {Sem : List bV → bH → Option bV → bH → Prop} (h : SK g l G c Sem) : Keeps g l G c := fun d hd ρ h0 Q hc hQ => h d hd ρ h0 Q hc (fun r h' hp _ => hQ r h' hp)
section CP
variable {g : bG} {l : Launch} {d k n0 : Nat} {Q : bQ}
theorem wp_tok {t : Tok} {ts : List Tok} {pc : Nat} {lv : bL} {st : List bV} {h : bH} {S' : bS} (ho : okL k pc (t :: ts) = true) (hs : cst (gsc g) k t (pc, lv, st, 212, h) = some S') (hn : S'.2.2.2.1 = 212) (hk : okL k (pc + t.2.1) ts = true → WP g l d k n0 212 Q S') : WP g l d k n0 212 Q (pc, lv, st, 212, h) := by
  obtain ⟨h1, h2, h3⟩ := okL_c ho
  exact wp_step h1 h2 hs hn (hk h3)
def cpT (iD aD wD iS aS wS : Nat) (r : List Tok) : List Tok := (.iload_n 1, 1, 0, 0) :: (.sipush 1984, 3, 0, 0) :: (.if_icmp .ge 21, 3, 0, 0) :: (.aload_n 0, 1, 0, 0) :: (.getfield iD, 3, aD, wD) :: (.iload_n 1, 1, 0, 0) :: (.aload_n 0, 1, 0, 0) :: (.getfield iS, 3, aS, wS) :: (.iload_n 1, 1, 0, 0) :: (.iaload, 1, 0, 0) :: (.iastore, 1, 0, 0) :: (.iinc 1 1, 3, 0, 0) :: (.goto (-22), 3, 0, 0) :: r
def cpL (i : Int) : bL := [(1, (0, i)), (0, (2, 193))]
/-- what an object's places and two long arrays must be -/
def cpOK (k aD aS D S : Nat) : Bool := bobj aD 212 193 && (bobj aS 212 193 && (kOf (fkd (aD / 64) (aD % 64)) == 2 && (kOf (fkd (aS / 64) (aS % 64)) == 2 && (decide (1 < mml k) && (decide (sh D = (0, 1984)) && (decide (sh S = (0, 1984)) && (decide (D < 212 ∧ S < 212 ∧ D ≠ 193 ∧ D ≠ S))))))))
theorem cp_loop {p0 iD aD wD iS aS wS D S : Nat} {r : List Tok} (ho : okL k p0 (cpT iD aD wD iS aS wS r) = true) (hk : cpOK k aD aS D S = true) : ∀ (n i : Nat) (h : bH), i + n = 1984 → h 193 (aD % 64) = (D : Int) → h 193 (aS % 64) = (S : Int) →
    (okL k (p0 + 25) r = true → ∀ h' : bH, (∀ j, i ≤ j → j < 1984 → h' D j = h S j) → (∀ a j, ¬ (a = D ∧ i ≤ j ∧ j < 1984) → h' a j = h a j) → WP g l d k n0 212 Q (p0 + 25, cpL 1984, [], 212, h')) →
    WP g l d k n0 212 Q (p0, cpL (i : Int), [], 212, h) := by
  unfold cpOK at hk
  simp only [Bool.and_eq_true, beq_iff_eq, decide_eq_true_eq] at hk
  obtain ⟨hD, hS, kD, kS, mk, sD, sS, lD, lS, ne1, ne2⟩ := hk
  have hend : okL k (p0 + 25) r = true := by
    have := ho
    unfold cpT at this
    have q1 := (okL_c this).2.2
    have q2 := (okL_c q1).2.2
    have q3 := (okL_c q2).2.2
    have q4 := (okL_c q3).2.2
    have q5 := (okL_c q4).2.2
    have q6 := (okL_c q5).2.2
    have q7 := (okL_c q6).2.2
    have q8 := (okL_c q7).2.2
    have q9 := (okL_c q8).2.2
    have q10 := (okL_c q9).2.2
    have q11 := (okL_c q10).2.2
    have q12 := (okL_c q11).2.2
    exact (okL_c q12).2.2
  intro n
  induction n with
  | zero =>
    intro i h hi h1 h2 hq
    have e : i = 1984 := by omega
    subst e
    refine wp_tok (S' := (p0 + 1, cpL 1984, [(0, 1984)], 212, h)) ho rfl rfl (fun ho => ?_)
    refine wp_tok (S' := (p0 + 1 + 3, cpL 1984, [(0, 1984), (0, 1984)], 212, h)) ho rfl rfl (fun ho => ?_)
    refine wp_tok (S' := (p0 + 25, cpL 1984, [], 212, h)) ho ?_ rfl (fun _ => hq hend h (fun j a b => by omega) (fun _ _ _ => rfl))
    show (if (0 : Nat) = 0 ∧ (0 : Nat) = 0 ∧ 0 ≤ ((p0 + 1 + 3 : Nat) : Int) + 21 then some (if bcond .ge (1984 : Int) 1984 = true then (((p0 + 1 + 3 : Nat) : Int) + 21).toNat else p0 + 1 + 3 + 3, cpL 1984, [], 212, h) else none) = _
    rw [if_pos ⟨rfl, rfl, by omega⟩, if_pos (by decide), show (((p0 + 1 + 3 : Nat) : Int) + 21).toNat = p0 + 25 by omega]
  | succ n ih =>
    intro i h hi h1 h2 hq
    have hlt : i < 1984 := by omega
    refine wp_tok (S' := (p0 + 1, cpL i, [(0, (i : Int))], 212, h)) ho rfl rfl (fun ho => ?_)
    refine wp_tok (S' := (p0 + 1 + 3, cpL i, [(0, 1984), (0, (i : Int))], 212, h)) ho rfl rfl (fun ho => ?_)
    refine wp_tok (S' := (p0 + 1 + 3 + 3, cpL i, [], 212, h)) ho ?_ rfl (fun ho => ?_)
    · show (if (0 : Nat) = 0 ∧ (0 : Nat) = 0 ∧ 0 ≤ ((p0 + 1 + 3 : Nat) : Int) + 21 then some (if bcond .ge (i : Int) 1984 = true then (((p0 + 1 + 3 : Nat) : Int) + 21).toNat else p0 + 1 + 3 + 3, cpL i, [], 212, h) else none) = _
      rw [if_pos ⟨rfl, rfl, by omega⟩, if_neg (by simp only [bcond, decide_eq_true_eq]; omega)]
    refine wp_tok (S' := (p0 + 1 + 3 + 3 + 1, cpL i, [(2, 193)], 212, h)) ho rfl rfl (fun ho => ?_)
    refine wp_tok (S' := (p0 + 1 + 3 + 3 + 1 + 3, cpL i, [(2, (D : Int))], 212, h)) ho ?_ rfl (fun ho => ?_)
    · show (if (2 : Nat) = 2 ∧ bobj aD 212 193 = true then some (p0 + 1 + 3 + 3 + 1 + 3, cpL i, (kOf (fkd (aD / 64) (aD % 64)), h (193 : Int).toNat (aD % 64)) :: [], 212, h) else none) = _
      rw [if_pos ⟨rfl, hD⟩, kD, show h (193 : Int).toNat (aD % 64) = (D : Int) from h1]
    refine wp_tok (S' := (p0 + 1 + 3 + 3 + 1 + 3 + 1, cpL i, [(0, (i : Int)), (2, (D : Int))], 212, h)) ho rfl rfl (fun ho => ?_)
    refine wp_tok (S' := (p0 + 1 + 3 + 3 + 1 + 3 + 1 + 1, cpL i, [(2, 193), (0, (i : Int)), (2, (D : Int))], 212, h)) ho rfl rfl (fun ho => ?_)
    refine wp_tok (S' := (p0 + 1 + 3 + 3 + 1 + 3 + 1 + 1 + 3, cpL i, [(2, (S : Int)), (0, (i : Int)), (2, (D : Int))], 212, h)) ho ?_ rfl (fun ho => ?_)
    · show (if (2 : Nat) = 2 ∧ bobj aS 212 193 = true then some (p0 + 1 + 3 + 3 + 1 + 3 + 1 + 1 + 3, cpL i, (kOf (fkd (aS / 64) (aS % 64)), h (193 : Int).toNat (aS % 64)) :: [(0, (i : Int)), (2, (D : Int))], 212, h) else none) = _
      rw [if_pos ⟨rfl, hS⟩, kS, show h (193 : Int).toNat (aS % 64) = (S : Int) from h2]
    refine wp_tok (S' := (p0 + 1 + 3 + 3 + 1 + 3 + 1 + 1 + 3 + 1, cpL i, [(0, (i : Int)), (2, (S : Int)), (0, (i : Int)), (2, (D : Int))], 212, h)) ho rfl rfl (fun ho => ?_)
    have hbS : barr 0 212 (S : Int) (i : Int) = true := by
      have e1 : decide ((0 : Int) ≤ (S : Int)) = true := decide_eq_true (by omega)
      have e2 : decide (S < 212) = true := decide_eq_true lS
      have e3 : decide ((0 : Int) ≤ (i : Int)) = true := decide_eq_true (by omega)
      have e4 : decide (i < 1984) = true := decide_eq_true hlt
      unfold barr
      rw [Int.toNat_natCast, Int.toNat_natCast, sS, e1, e2, e3]
      exact e4
    have hbD : barr 0 212 (D : Int) (i : Int) = true := by
      have e1 : decide ((0 : Int) ≤ (D : Int)) = true := decide_eq_true (by omega)
      have e2 : decide (D < 212) = true := decide_eq_true lD
      have e3 : decide ((0 : Int) ≤ (i : Int)) = true := decide_eq_true (by omega)
      have e4 : decide (i < 1984) = true := decide_eq_true hlt
      unfold barr
      rw [Int.toNat_natCast, Int.toNat_natCast, sD, e1, e2, e3]
      exact e4
    refine wp_tok (S' := (p0 + 1 + 3 + 3 + 1 + 3 + 1 + 1 + 3 + 1 + 1, cpL i, [(0, h S i), (0, (i : Int)), (2, (D : Int))], 212, h)) ho ?_ rfl (fun ho => ?_)
    · show (if (0 : Nat) = 0 ∧ (2 : Nat) = 2 ∧ (S : Int) = 700 ∧ 0 ≤ (i : Int) ∧ (i : Int).toNat < (gsc g).1 then _ else (if (0 : Nat) = 0 ∧ (2 : Nat) = 2 ∧ barr 0 212 (S : Int) (i : Int) = true then some (p0 + 1 + 3 + 3 + 1 + 3 + 1 + 1 + 3 + 1 + 1, cpL i, (0, h (S : Int).toNat (i : Int).toNat) :: [(0, (i : Int)), (2, (D : Int))], 212, h) else none)) = _
      rw [if_neg (fun e => by have := e.2.2.1; omega), if_pos ⟨rfl, rfl, hbS⟩]
      rfl
    refine wp_tok (S' := (p0 + 1 + 3 + 3 + 1 + 3 + 1 + 1 + 3 + 1 + 1 + 1, cpL i, [], 212, hup h D i (h S i))) ho ?_ rfl (fun ho => ?_)
    · show (if (0 : Nat) = 0 ∧ (0 : Nat) = 0 ∧ (2 : Nat) = 2 ∧ barr 0 212 (D : Int) (i : Int) = true then some (p0 + 1 + 3 + 3 + 1 + 3 + 1 + 1 + 3 + 1 + 1 + 1, cpL i, [], 212, hup h (D : Int).toNat (i : Int).toNat (h S i)) else none) = _
      rw [if_pos ⟨rfl, rfl, rfl, hbD⟩]
      rfl
    refine wp_tok (S' := (p0 + 1 + 3 + 3 + 1 + 3 + 1 + 1 + 3 + 1 + 1 + 1 + 3, cpL ((i + 1 : Nat) : Int), [], 212, hup h D i (h S i))) ho ?_ rfl (fun ho => ?_)
    · show (if (0 : Nat) = 0 ∧ 1 < mml k then some (p0 + 1 + 3 + 3 + 1 + 3 + 1 + 1 + 3 + 1 + 1 + 1 + 3, (1, (0, w32 ((i : Int) + 1))) :: bkeep 0 1 (cpL i), [], 212, hup h D i (h S i)) else none) = _
      rw [if_pos ⟨rfl, mk⟩, w32_id (by unfold in32; omega), show ((i : Int) + 1) = ((i + 1 : Nat) : Int) by omega]
      rfl
    refine wp_tok (S' := (p0, cpL ((i + 1 : Nat) : Int), [], 212, hup h D i (h S i))) ho ?_ rfl (fun _ => ?_)
    · show (if 0 ≤ ((p0 + 1 + 3 + 3 + 1 + 3 + 1 + 1 + 3 + 1 + 1 + 1 + 3 : Nat) : Int) + (-22) then some ((((p0 + 1 + 3 + 3 + 1 + 3 + 1 + 1 + 3 + 1 + 1 + 1 + 3 : Nat) : Int) + (-22)).toNat, cpL ((i + 1 : Nat) : Int), [], 212, hup h D i (h S i)) else none) = _
      rw [if_pos (by omega), show (((p0 + 1 + 3 + 3 + 1 + 3 + 1 + 1 + 3 + 1 + 1 + 1 + 3 : Nat) : Int) + (-22)).toNat = p0 by omega]
    have hne : ∀ a j, ¬ (a = D ∧ j = i) → hup h D i (h S i) a j = h a j := fun a j q => if_neg q
    refine ih (i + 1) (hup h D i (h S i)) (by omega) (by rw [hne _ _ (fun q => ne1 q.1.symm)]; exact h1) (by rw [hne _ _ (fun q => ne1 q.1.symm)]; exact h2) (fun ho2 h' a b => hq ho2 h' (fun j j1 j2 => ?_) (fun x j q => ?_))
    · by_cases e : j = i
      · subst e
        rw [b D j (fun q => by omega)]
        exact if_pos ⟨rfl, rfl⟩
      · rw [a j (by omega) j2, hne _ _ (fun q => ne2 q.1.symm)]
    · rw [b x j (fun q2 => q ⟨q2.1, by omega, q2.2.2⟩)]
      exact hne _ _ (fun q2 => q ⟨q2.1, by omega, by omega⟩)
end CP
/-- the copy's contract: the entry's unknowns alone; the places behind are the places ahead -/
def cpQ (D S : Nat) (z : Bool) (C : aC) (q : (Nat × Nat) × Fm) : Bool := if q.1.1 = D then decide (q.1.2 < 1984) && decide (clook S q.1.2 (cC C) = some q.2) else if q.1 = (193, 2) ∧ z = true then decide (q.2 = (1, [])) else decide (clook q.1.1 q.1.2 (cC C) = some q.2)
def cpTy (q : Nat × Nat) (C : aC) (f : Fm) : Bool := isIn (tyP (PofW gT none false) q.1 q.2).1 (tyP (PofW gT none false) q.1 q.2).2 (iv (eC C) f)
def cpU (D S : Nat) (z : Bool) (C E : aC) (q : (Nat × Nat) × Fm) : Bool := ((q.1.1 == D || (q.1 == (193, 2) && z)) || (cpTy q.1 C q.2 || (clook q.1.1 q.1.2 (cC E)).isSome)) && (!(q.1.1 == S) || (cpTy (D, q.1.2) C q.2 || (clook D q.1.2 (cC E)).isSome))
def cpE (D S : Nat) (z : Bool) (xs : List Fm) (C E : aC) : Bool := decide (eC E = eC C) && (decide (nC C = 212) && (decide (nC E = 212) && (((fC E).all fun f => decide (f ∈ xs ++ fC C)) && (((cC E).all (cpQ D S z C)) && ((cC C).all (cpU D S z C E))))))
theorem cp_core {L : bC} {w : aW} {D S : Nat} {z : Bool} {xs : List Fm} {C E : aC} {ρ : Nat → Int} {h h' : bH} (hq : core (PofW gT w false) L h ρ h C) (hE : cpE D S z xs C E = true) (hx : ∀ f ∈ xs, wfF (eC C).length f ∧ ev ρ f ≤ 0) (hty : ∀ j, j < 1984 → (tyP (PofW gT none false) D j).1 ≤ (tyP (PofW gT none false) S j).1 ∧ (tyP (PofW gT none false) S j).2 ≤ (tyP (PofW gT none false) D j).2) (hsh : sh D = (0, 1984) ∧ sh S = (0, 1984) ∧ S < 212 ∧ D ≠ S ∧ D ≠ 193) (hz : (tyP (PofW gT none false) 193 2).1 ≤ 1 ∧ 1 ≤ (tyP (PofW gT none false) 193 2).2)
    (c1 : ∀ j, j < 1984 → h' D j = h S j) (c2 : z = true → h' 193 2 = 1) (c3 : ∀ a j, ¬ (a = D ∧ j < 1984) → ¬ (a = 193 ∧ j = 2 ∧ z = true) → h' a j = h a j) (hw : ∀ a j, wrF w a j = false → h' a j = h a j) : core (PofW gT w false) L h ρ h' E := by
  unfold cpE at hE
  simp only [Bool.and_eq_true, decide_eq_true_eq] at hE
  obtain ⟨e1, e2, e3, e4, e5, e6⟩ := hE
  obtain ⟨q1, q2, q3, q4, q5, q6⟩ := hq
  have hT : ∀ a j, tyP (PofW gT w false) a j = tyP (PofW gT none false) a j := fun _ _ => rfl
  have hin : ∀ (p : Nat × Nat) (f : Fm), wfF (eC C).length f → cpTy p C f = true → (tyP (PofW gT none false) p.1 p.2).1 ≤ ev ρ f ∧ ev ρ f ≤ (tyP (PofW gT none false) p.1 p.2).2 := fun p f hf ht => by
    have a := isIn_x ht
    have b := iv_ok q1 hf
    omega
  refine ⟨by rw [e1]; exact q1, fun f hf => ?_, fun c hc => ?_, fun a j ha hj hn => ?_, hw, fun hp => by cases hp⟩
  · rw [e1]
    have := of_decide_eq_true (List.all_eq_true.mp e4 f hf)
    rcases List.mem_append.mp this with m | m
    · exact hx f m
    · exact q2 f m
  · have := List.all_eq_true.mp e5 c hc
    unfold cpQ at this
    rw [e1]
    split at this
    · rename_i e
      rw [Bool.and_eq_true, decide_eq_true_eq, decide_eq_true_eq] at this
      have m := q3 _ (clook_some this.2)
      refine ⟨m.1, ?_⟩
      rw [e, c1 _ this.1]
      exact m.2
    · rename_i e
      split at this
      · rename_i e2
        rw [of_decide_eq_true this]
        refine ⟨wf_con _ 1, ?_⟩
        rw [e2.1]
        show h' 193 2 = ev ρ (fcon 1)
        rw [c2 e2.2, fcon_ev]
      · rename_i e2
        have m := q3 _ (clook_some (of_decide_eq_true this))
        refine ⟨m.1, ?_⟩
        rw [c3 _ _ (fun q => e q.1) (fun q => e2 ⟨Prod.ext q.1 q.2.1, q.2.2⟩)]
        exact m.2
  · rw [hT]
    rw [e3] at ha
    have nsome : ∀ x y, (x, y) = (a, j) → ¬ (clook x y (cC E)).isSome = true := fun x y e hs => by
      cases hk : clook x y (cC E) with
      | none => rw [hk] at hs; cases hs
      | some f => exact hn _ (clook_some hk) e
    by_cases eD : a = D
    · subst eD
      have hj : j < 1984 := by rw [hsh.1] at hj; exact hj
      rw [c1 j hj]
      by_cases hc : ∀ c ∈ cC C, c.1 ≠ (S, j)
      · have t := q4 S j (by rw [e2]; exact hsh.2.2.1) (by rw [hsh.2.1]; exact hj) hc
        rw [hT] at t
        have := hty j hj
        omega
      · simp only [Classical.not_forall, ne_eq, Classical.not_not] at hc
        obtain ⟨c, hm, he⟩ := hc
        have u := List.all_eq_true.mp e6 c hm
        unfold cpU at u
        rw [Bool.and_eq_true] at u
        have m := q3 c hm
        rw [he] at m
        have v := u.2
        rw [he] at v
        simp only [beq_self_eq_true, Bool.not_true, Bool.false_or, Bool.or_eq_true] at v
        rcases v with v | v
        · have := hin (a, j) c.2 m.1 v
          rw [m.2]
          exact this
        · exact absurd v (nsome a j rfl)
    · by_cases eZ : a = 193 ∧ j = 2 ∧ z = true
      · obtain ⟨rfl, rfl, ez⟩ := eZ
        rw [c2 ez]
        exact hz
      · rw [c3 a j (fun q => eD q.1) eZ]
        by_cases hc : ∀ c ∈ cC C, c.1 ≠ (a, j)
        · have t := q4 a j (by rw [e2]; exact ha) hj hc
          rw [hT] at t
          exact t
        · simp only [Classical.not_forall, ne_eq, Classical.not_not] at hc
          obtain ⟨c, hm, he⟩ := hc
          have u := List.all_eq_true.mp e6 c hm
          unfold cpU at u
          rw [Bool.and_eq_true] at u
          have m := q3 c hm
          rw [he] at m
          have v := u.1
          rw [he] at v
          simp only [Bool.or_eq_true, Bool.and_eq_true, beq_iff_eq, Prod.mk.injEq] at v
          rcases v with (v | v) | (v | v)
          · exact absurd v eD
          · exact absurd ⟨v.1.1, v.1.2, v.2⟩ eZ
          · have := hin (a, j) c.2 m.1 v
            rw [m.2]
            exact this
          · exact absurd v (nsome a j rfl)
/-- nothing written: what is known behind is known ahead, or lies in its range -/
def smE (xs : List Fm) (C E : aC) : Bool := decide (eC E = eC C) && (decide (nC E = nC C) && (((fC E).all fun f => decide (f ∈ xs ++ fC C)) && (((cC E).all fun q => decide (clook q.1.1 q.1.2 (cC C) = some q.2)) && ((cC C).all fun q => cpTy q.1 C q.2 || (clook q.1.1 q.1.2 (cC E)).isSome))))
theorem sm_core {L : bC} {w : aW} {xs : List Fm} {C E : aC} {ρ : Nat → Int} {h : bH} (hq : core (PofW gT w false) L h ρ h C) (hE : smE xs C E = true) (hx : ∀ f ∈ xs, wfF (eC C).length f ∧ ev ρ f ≤ 0) : core (PofW gT w false) L h ρ h E := by
  unfold smE at hE
  simp only [Bool.and_eq_true, decide_eq_true_eq] at hE
  obtain ⟨e1, e3, e4, e5, e6⟩ := hE
  obtain ⟨q1, q2, q3, q4, q5, q6⟩ := hq
  refine ⟨by rw [e1]; exact q1, fun f hf => ?_, fun c hc => ?_, fun a j ha hj hn => ?_, fun _ _ _ => rfl, fun hp => by cases hp⟩
  · rw [e1]
    have := of_decide_eq_true (List.all_eq_true.mp e4 f hf)
    rcases List.mem_append.mp this with m | m
    · exact hx f m
    · exact q2 f m
  · rw [e1]
    exact q3 _ (clook_some (of_decide_eq_true (List.all_eq_true.mp e5 c hc)))
  · rw [e3] at ha
    by_cases hc : ∀ c ∈ cC C, c.1 ≠ (a, j)
    · exact q4 a j ha hj hc
    · simp only [Classical.not_forall, ne_eq, Classical.not_not] at hc
      obtain ⟨c, hm, he⟩ := hc
      have u := List.all_eq_true.mp e6 c hm
      have m := q3 c hm
      rw [he] at m u
      rw [Bool.or_eq_true] at u
      rcases u with v | v
      · have a1 := isIn_x v
        have b1 := iv_ok q1 m.1
        show (tyP (PofW gT none false) a j).1 ≤ _ ∧ _ ≤ (tyP (PofW gT none false) a j).2
        rw [m.2]
        dsimp only at a1 b1
        omega
      · cases hk : clook a j (cC E) with
        | none => rw [hk] at v; cases v
        | some f => exact absurd rfl (hn _ (clook_some hk))
/-- the two arrays' ranges agree, both ways; the object's places -/
theorem ty_kp : ((List.range 1984).all fun j => decide (tyP (PofW gT none false) 195 j = tyP (PofW gT none false) 194 j)) = true := by decide +kernel
theorem ty_kp2 (j : Nat) (hj : j < 1984) : tyP (PofW gT none false) 195 j = tyP (PofW gT none false) 194 j := of_decide_eq_true (List.all_eq_true.mp ty_kp j (List.mem_range.mpr hj))
theorem ty_m : tyP (PofW gT none false) 193 0 = (194, 194) ∧ tyP (PofW gT none false) 193 1 = (195, 195) ∧ (tyP (PofW gT none false) 193 2).1 = 0 ∧ (tyP (PofW gT none false) 193 2).2 = 1 := by decide +kernel
theorem sh_m : sh 194 = (0, 1984) ∧ sh 195 = (0, 1984) ∧ 2 < (sh 193).2 := by decide +kernel
def cpFld (C : aC) : Bool := (cC C).all fun q => decide (q.1 ≠ (193, 0) ∧ q.1 ≠ (193, 1))
theorem fld_m {L : bC} {w : aW} {C : aC} {ρ : Nat → Int} {h : bH} (hq : core (PofW gT w false) L h ρ h C) (hf : cpFld C = true) (hn : nC C = 212) : h 193 0 = 194 ∧ h 193 1 = 195 := by
  have h0 := hq.2.2.2.1 193 0 (by rw [hn]; decide) (by have := sh_m.2.2; omega) (fun c hc e => (of_decide_eq_true (List.all_eq_true.mp hf c hc)).1 e)
  have h1 := hq.2.2.2.1 193 1 (by rw [hn]; decide) (by have := sh_m.2.2; omega) (fun c hc e => (of_decide_eq_true (List.all_eq_true.mp hf c hc)).2 e)
  rw [show tyP (PofW gT w false) 193 0 = (194, 194) from ty_m.1] at h0
  rw [show tyP (PofW gT w false) 193 1 = (195, 195) from ty_m.2.1] at h1
  dsimp only at h0 h1
  omega

theorem kp_tk : tk 295 = (.iconst 0, 1, 0, 0) :: (.istore_n 1, 1, 0, 0) :: cpT 13 705 1346 7 704 1345 [(.aload_n 0, 1, 0, 0), (.iconst 1, 1, 0, 0), (.putfield 381, 3, 706, 1347), (.iconst 1, 1, 0, 0), (.ireturn, 1, 0, 0)] := rfl
theorem ka_tk : tk 296 = (.aload_n 0, 1, 0, 0) :: (.getfield 381, 3, 706, 1347) :: (.ifCond .ne 6, 3, 0, 0) :: (.bipush (-3), 2, 0, 0) :: (.ireturn, 1, 0, 0) :: (.iconst 0, 1, 0, 0) :: (.istore_n 1, 1, 0, 0) :: cpT 7 704 1345 13 705 1346 [(.iconst 1, 1, 0, 0), (.ireturn, 1, 0, 0)] := rfl
theorem kp_ok : cpOK 295 705 704 195 194 = true := by decide +kernel
theorem ka_ok : cpOK 296 704 705 194 195 = true := by decide +kernel
theorem kp_z : bobj 706 212 193 = true ∧ kOf (fkd (706 / 64) (706 % 64)) = 0 ∧ bfin (706 / 64) (706 % 64) = false ∧ 706 % 64 = 2 := by decide +kernel
theorem kp_r : mret 295 = some .int ∧ mret 296 = some .int := ⟨rfl, rfl⟩
def kpB (c : aCt) : Bool := decide (ctK c = 295) && (decide (ctW c = some [(193, 2, 3), (195, 0, 1984)]) && (!(ctS c) && (decide (ctA c = [(2, ((193, []) : Fm))]) && (decide (nC (ctC c) = 212) && (cpFld (ctC c) && (match ctP c with
  | [(E, some v)] => decide (v = (0, ((1, []) : Fm))) && cpE 195 194 true [] (ctC c) E
  | _ => false))))))
def semKM (_ : List bV) (h : bH) (_ : Option bV) (h' : bH) : Prop := (∀ j, j < 1984 → h' 195 j = h 194 j) ∧ h' 193 2 = 1 ∧ ∀ a j, ¬ (a = 195 ∧ j < 1984) → ¬ (a = 193 ∧ j = 2) → h' a j = h a j
theorem keep_sk {c : aCt} (hc : kpB c = true) (hB : BytesOK) (g : bG) (l : Launch) : SK g l gT c semKM := by
  obtain ⟨k, lev, w, s, C, A, P⟩ := c
  unfold kpB at hc
  simp only [Bool.and_eq_true] at hc
  obtain ⟨k1, k2, k3, k4, k5, k6, k7⟩ := hc
  have j1 : k = 295 := of_decide_eq_true k1
  have j2 : w = some [(193, 2, 3), (195, 0, 1984)] := of_decide_eq_true k2
  have j3 : s = false := by
    have k3 : (!s) = true := k3
    simpa using k3
  have j4 : A = [(2, ((193, []) : Fm))] := of_decide_eq_true k4
  have j5 : nC C = 212 := of_decide_eq_true k5
  have j6 : cpFld C = true := k6
  subst j1 j2 j3 j4
  rcases P with _ | ⟨⟨E, _ | v⟩, _ | ⟨p2, P⟩⟩
  · exact absurd k7 (by simp)
  · exact absurd k7 (by simp)
  · exact absurd k7 (by simp)
  · have k7 : (decide (v = (0, ((1, []) : Fm))) && cpE 195 194 true [] C E) = true := k7
    rw [Bool.and_eq_true] at k7
    have kv := of_decide_eq_true k7.1
    subst kv
    have kE := k7.2
    have nE : nC E = 212 := by
      have := kE
      unfold cpE at this
      simp only [Bool.and_eq_true, decide_eq_true_eq] at this
      exact this.2.2.1
    intro d hl ρ h Q hcr hQ
    have hcr : core (PofW gT (some [(193, 2, 3), (195, 0, 1984)]) false) (gsc g) h ρ h C := hcr
    obtain ⟨f0, f1⟩ := fld_m hcr j6 j5
    show MH g l d 295 (nC C) (nC E) (evS ρ [(2, ((193, []) : Fm))]) h Q
    rw [j5, nE]
    have ml : 1 < mml 295 := by decide +kernel
    refine mh_of (hB.2 295 (by decide)) (by show stw [(2, ev ρ ((193, []) : Fm))] ≤ mml 295; show 1 + 0 ≤ mml 295; omega) (Nat.le_refl _) ?_
    have ho := hB.1 295
    rw [kp_tk] at ho
    have e0 : largs 0 (evS ρ [(2, ((193, []) : Fm))]) = [(0, (2, 193))] := by
      show [(0, (2, ev ρ (fcon 193)))] = _
      rw [fcon_ev]
    rw [e0]
    refine wp_tok (S' := (1, [(0, (2, 193))], [(0, 0)], 212, h)) ho rfl rfl (fun ho => ?_)
    refine wp_tok (S' := (2, cpL ((0 : Nat) : Int), [], 212, h)) ho ?_ rfl (fun ho => ?_)
    · show (if (0 : Nat) = 0 ∧ 1 + (if (0 : Nat) = 1 then 1 else 0) < mml 295 then some (1 + 1, (1, (0, 0)) :: bkeep 0 1 [(0, (2, 193))], [], 212, h) else none) = _
      rw [if_pos ⟨rfl, by simpa using ml⟩]
      rfl
    refine cp_loop (D := 195) (S := 194) ho kp_ok 1984 0 h rfl f1 f0 (fun ho h1 a b => ?_)
    refine wp_tok (S' := (28, cpL 1984, [(2, 193)], 212, h1)) ho rfl rfl (fun ho => ?_)
    refine wp_tok (S' := (29, cpL 1984, [(0, 1), (2, 193)], 212, h1)) ho rfl rfl (fun ho => ?_)
    refine wp_tok (S' := (32, cpL 1984, [], 212, hup h1 193 2 1)) ho ?_ rfl (fun ho => ?_)
    · show (if (2 : Nat) = 2 ∧ bobj 706 212 193 = true ∧ (0 : Nat) = kOf (fkd (706 / 64) (706 % 64)) ∧ (fkd (706 / 64) (706 % 64) = 3 → (0 : Int) ≤ 1 ∧ (1 : Int) ≤ 1) ∧ (bfin (706 / 64) (706 % 64) = true → (mname 295).name = "<init>") then some (29 + 3, cpL 1984, [], 212, hup h1 (193 : Int).toNat (706 % 64) 1) else none) = _
      rw [if_pos ⟨rfl, kp_z.1, kp_z.2.1.symm, fun _ => ⟨by decide, by decide⟩, fun e => by rw [kp_z.2.2.1] at e; cases e⟩]
      rfl
    refine wp_tok (S' := (33, cpL 1984, [(0, 1)], 212, hup h1 193 2 1)) ho rfl rfl (fun ho => ?_)
    have hn : ∀ x j, ¬ (x = 193 ∧ j = 2) → hup h1 193 2 1 x j = h1 x j := fun x j q => if_neg q
    refine wp_ret (r := some (0, 1)) (okL_c ho).1 rfl rfl (by rw [kp_r.1]; trivial) (hQ _ _ ?_ ⟨fun j hj => (hn 195 j (fun q => absurd q.1 (by decide))).trans (a j (Nat.zero_le _) hj), if_pos ⟨rfl, rfl⟩, fun x j q1 q2 => (hn x j q2).trans (b x j (fun q => q1 ⟨q.1, q.2.2⟩))⟩)
    refine ⟨(E, some (0, (1, []))), List.mem_singleton.mpr rfl, ρ, fun _ _ => rfl, ?_, ?_⟩
    · refine cp_core (D := 195) (S := 194) (z := true) (xs := []) hcr kE (fun f hf => by cases hf) (fun j hj => by rw [ty_kp2 j hj]; exact ⟨Int.le_refl _, Int.le_refl _⟩) ⟨sh_m.2.1, sh_m.1, by decide, by decide, by decide⟩ (by rw [ty_m.2.2.1, ty_m.2.2.2]; decide) (fun j hj => ?_) (fun _ => if_pos ⟨rfl, rfl⟩) (fun x j q1 q2 => ?_) (fun x j q => ?_)
      · rw [hn 195 j (fun q => absurd q.1 (by decide))]
        exact a j (Nat.zero_le _) hj
      · rw [hn x j (fun q => q2 ⟨q.1, q.2, rfl⟩)]
        exact b x j (fun q => q1 ⟨q.1, q.2.2⟩)
      · have q : ((193 == x && (decide (2 ≤ j) && decide (j < 3))) || ((195 == x && (decide (0 ≤ j) && decide (j < 1984))) || false)) = false := q
        simp only [Bool.or_eq_false_iff, Bool.and_eq_false_iff, beq_eq_false_iff_ne, decide_eq_false_iff_not] at q
        rw [hn x j (fun e => by rcases q.1 with z | z | z <;> omega)]
        exact b x j (fun e => by rcases q.2.1 with z | z | z <;> omega)
    · show some ((0 : Nat), (1 : Int)) = some (0, ev ρ (fcon 1))
      rw [fcon_ev]
  · exact absurd k7 (by simp)
theorem keep_keeps {c : aCt} (hc : kpB c = true) (hB : BytesOK) (g : bG) (l : Launch) : Keeps g l gT c := SK_k (keep_sk hc hB g l)
def kaB (c : aCt) : Bool := decide (ctK c = 296) && (decide (ctW c = some [(194, 0, 1984)]) && (!(ctS c) && (decide (ctA c = [(2, ((193, []) : Fm))]) && (decide (nC (ctC c) = 212) && (cpFld (ctC c) && (match clook 193 2 (cC (ctC c)), ctP c with
  | some f, [(E0, some v0), (E1, some v1)] => isIn 0 1 (iv (eC (ctC c)) f) && (decide (v0 = (0, (((-3), []) : Fm))) && (decide (v1 = (0, ((1, []) : Fm))) && (smE [f] (ctC c) E0 && cpE 194 195 false [fsub (fcon 1) f] (ctC c) E1)))
  | none, [(E0, some v0), (E1, some v1)] => decide (v0 = (0, (((-3), []) : Fm))) && (decide (v1 = (0, ((1, []) : Fm))) && (smE [] (ctC c) E0 && cpE 194 195 false [] (ctC c) E1))
  | _, _ => false))))))
def semAM (_ : List bV) (h : bH) (_ : Option bV) (h' : bH) : Prop := (h 193 2 = 0 ∧ h' = h) ∨ (h 193 2 = 1 ∧ (∀ j, j < 1984 → h' 194 j = h 195 j) ∧ ∀ a j, ¬ (a = 194 ∧ j < 1984) → h' a j = h a j)
theorem again_sk {c : aCt} (hc : kaB c = true) (hB : BytesOK) (g : bG) (l : Launch) : SK g l gT c semAM := by
  obtain ⟨k, lev, w, s, C, A, P⟩ := c
  unfold kaB at hc
  simp only [Bool.and_eq_true] at hc
  obtain ⟨k1, k2, k3, k4, k5, k6, k7⟩ := hc
  have j1 : k = 296 := of_decide_eq_true k1
  have j2 : w = some [(194, 0, 1984)] := of_decide_eq_true k2
  have j3 : s = false := by
    have k3 : (!s) = true := k3
    simpa using k3
  have j4 : A = [(2, ((193, []) : Fm))] := of_decide_eq_true k4
  have j5 : nC C = 212 := of_decide_eq_true k5
  have j6 : cpFld C = true := k6
  subst j1 j2 j3 j4
  -- both shapes: what is known of the flag, as facts
  have main : ∀ (xs0 xs1 : List Fm) (E0 E1 : aC), P = [(E0, some (0, ((-3), []))), (E1, some (0, (1, [])))] → smE xs0 C E0 = true → cpE 194 195 false xs1 C E1 = true → (∀ (L : bC) (ρ : Nat → Int) (h : bH), core (PofW gT (some [(194, 0, 1984)]) false) L h ρ h C → h 193 2 = 0 → ∀ f ∈ xs0, wfF (eC C).length f ∧ ev ρ f ≤ 0) → (∀ (L : bC) (ρ : Nat → Int) (h : bH), core (PofW gT (some [(194, 0, 1984)]) false) L h ρ h C → 1 ≤ h 193 2 → ∀ f ∈ xs1, wfF (eC C).length f ∧ ev ρ f ≤ 0) → (∀ (L : bC) (ρ : Nat → Int) (h : bH), core (PofW gT (some [(194, 0, 1984)]) false) L h ρ h C → 0 ≤ h 193 2 ∧ h 193 2 ≤ 1) → SK g l gT (296, lev, some [(194, 0, 1984)], false, C, [(2, ((193, []) : Fm))], P) semAM := by
    intro xs0 xs1 E0 E1 hP s0 s1 x0 x1 hr
    subst hP
    have nE : nC E0 = 212 := by
      have := s0
      unfold smE at this
      simp only [Bool.and_eq_true, decide_eq_true_eq] at this
      rw [this.2.1, j5]
    intro d hl ρ h Q hcr hQ
    have hcr : core (PofW gT (some [(194, 0, 1984)]) false) (gsc g) h ρ h C := hcr
    obtain ⟨f0, f1⟩ := fld_m hcr j6 j5
    have hb := hr _ ρ h hcr
    show MH g l d 296 (nC C) (nC E0) (evS ρ [(2, ((193, []) : Fm))]) h Q
    rw [j5, nE]
    have ml : 1 < mml 296 := by decide +kernel
    refine mh_of (hB.2 296 (by decide)) (by show 1 + 0 ≤ mml 296; omega) (Nat.le_refl _) ?_
    have ho := hB.1 296
    rw [ka_tk] at ho
    have e0 : largs 0 (evS ρ [(2, ((193, []) : Fm))]) = [(0, (2, 193))] := by
      show [(0, (2, ev ρ (fcon 193)))] = _
      rw [fcon_ev]
    rw [e0]
    refine wp_tok (S' := (1, [(0, (2, 193))], [(2, 193)], 212, h)) ho rfl rfl (fun ho => ?_)
    refine wp_tok (S' := (4, [(0, (2, 193))], [(0, h 193 2)], 212, h)) ho ?_ rfl (fun ho => ?_)
    · show (if (2 : Nat) = 2 ∧ bobj 706 212 193 = true then some (1 + 3, [(0, (2, 193))], (kOf (fkd (706 / 64) (706 % 64)), h (193 : Int).toNat (706 % 64)) :: [], 212, h) else none) = _
      rw [if_pos ⟨rfl, kp_z.1⟩, kp_z.2.1]
      rfl
    by_cases e : h 193 2 = 0
    · refine wp_tok (S' := (7, [(0, (2, 193))], [], 212, h)) ho ?_ rfl (fun ho => ?_)
      · show (if (0 : Nat) = 0 ∧ 0 ≤ ((4 : Nat) : Int) + 6 then some (if bcond .ne (h 193 2) 0 = true then (((4 : Nat) : Int) + 6).toNat else 4 + 3, [(0, (2, 193))], [], 212, h) else none) = _
        rw [if_pos ⟨rfl, by decide⟩, if_neg (by simp [bcond, e])]
      refine wp_tok (S' := (9, [(0, (2, 193))], [(0, -3)], 212, h)) ho rfl rfl (fun ho => ?_)
      refine wp_ret (r := some (0, -3)) (okL_c ho).1 rfl rfl (by rw [kp_r.2]; trivial) (hQ _ _ ?_ (Or.inl ⟨e, rfl⟩))
      refine ⟨(E0, some (0, ((-3), []))), List.mem_cons_self, ρ, fun _ _ => rfl, sm_core hcr s0 (x0 _ ρ h hcr e), ?_⟩
      show some ((0 : Nat), (-3 : Int)) = some (0, ev ρ (fcon (-3)))
      rw [fcon_ev]
    · refine wp_tok (S' := (10, [(0, (2, 193))], [], 212, h)) ho ?_ rfl (fun ho => ?_)
      · show (if (0 : Nat) = 0 ∧ 0 ≤ ((4 : Nat) : Int) + 6 then some (if bcond .ne (h 193 2) 0 = true then (((4 : Nat) : Int) + 6).toNat else 4 + 3, [(0, (2, 193))], [], 212, h) else none) = _
        rw [if_pos ⟨rfl, by decide⟩, if_pos (by simp [bcond, e])]
        rfl
      have ho := (okL_c ho).2.2
      have ho := (okL_c ho).2.2
      refine wp_tok (S' := (11, [(0, (2, 193))], [(0, 0)], 212, h)) ho rfl rfl (fun ho => ?_)
      refine wp_tok (S' := (12, cpL ((0 : Nat) : Int), [], 212, h)) ho ?_ rfl (fun ho => ?_)
      · show (if (0 : Nat) = 0 ∧ 1 + (if (0 : Nat) = 1 then 1 else 0) < mml 296 then some (11 + 1, (1, (0, 0)) :: bkeep 0 1 [(0, (2, 193))], [], 212, h) else none) = _
        rw [if_pos ⟨rfl, by simpa using ml⟩]
        rfl
      refine cp_loop (D := 194) (S := 195) ho ka_ok 1984 0 h rfl f0 f1 (fun ho h1 a b => ?_)
      refine wp_tok (S' := (38, cpL 1984, [(0, 1)], 212, h1)) ho rfl rfl (fun ho => ?_)
      refine wp_ret (r := some (0, 1)) (okL_c ho).1 rfl rfl (by rw [kp_r.2]; trivial) (hQ _ _ ?_ (Or.inr ⟨by omega, fun j hj => a j (Nat.zero_le _) hj, fun x j q => b x j (fun z => q ⟨z.1, z.2.2⟩)⟩))
      refine ⟨(E1, some (0, (1, []))), List.mem_cons_of_mem _ (List.mem_singleton.mpr rfl), ρ, fun _ _ => rfl, ?_, ?_⟩
      · refine cp_core (D := 194) (S := 195) (z := false) (xs := xs1) hcr s1 (x1 _ ρ h hcr (by omega)) (fun j hj => by rw [ty_kp2 j hj]; exact ⟨Int.le_refl _, Int.le_refl _⟩) ⟨sh_m.1, sh_m.2.1, by decide, by decide, by decide⟩ (by rw [ty_m.2.2.1, ty_m.2.2.2]; decide) (fun j hj => a j (Nat.zero_le _) hj) (fun z => by cases z) (fun x j q1 q2 => b x j (fun q => q1 ⟨q.1, q.2.2⟩)) (fun x j q => ?_)
        have q : ((194 == x && (decide (0 ≤ j) && decide (j < 1984))) || false) = false := q
        simp only [Bool.or_eq_false_iff, Bool.and_eq_false_iff, beq_eq_false_iff_ne, decide_eq_false_iff_not] at q
        exact b x j (fun e => by rcases q.1 with z | z | z <;> omega)
      · show some ((0 : Nat), (1 : Int)) = some (0, ev ρ (fcon 1))
        rw [fcon_ev]
  have rng : ∀ (f : Fm), clook 193 2 (cC C) = some f → ∀ (L : bC) (ρ : Nat → Int) (h : bH), core (PofW gT (some [(194, 0, 1984)]) false) L h ρ h C → h 193 2 = ev ρ f ∧ wfF (eC C).length f := fun f hf L ρ h q => ⟨(q.2.2.1 _ (clook_some hf)).2, (q.2.2.1 _ (clook_some hf)).1⟩
  split at k7
  · rename_i f E0 v0 E1 v1 hf hP
    have hf : clook 193 2 (cC C) = some f := hf
    have hP : P = [(E0, some v0), (E1, some v1)] := hP
    simp only [Bool.and_eq_true, decide_eq_true_eq] at k7
    obtain ⟨cu, rfl, rfl, s0, s1⟩ := k7
    have cu : isIn 0 1 (iv (eC C) f) = true := cu
    refine main [f] [fsub (fcon 1) f] E0 E1 hP s0 s1 (fun L ρ h q e f' hf' => ?_) (fun L ρ h q e f' hf' => ?_) (fun L ρ h q => ?_)
    · cases List.mem_singleton.mp hf'
      have := rng f hf L ρ h q
      exact ⟨this.2, by omega⟩
    · cases List.mem_singleton.mp hf'
      have := rng f hf L ρ h q
      exact ⟨wf_sub (wf_con _ _) this.2, by rw [fsub_ev, fcon_ev]; omega⟩
    · have := rng f hf L ρ h q
      have a := isIn_x cu
      have b := iv_ok q.1 this.2
      omega
  · rename_i E0 v0 E1 v1 hf hP
    have hf : clook 193 2 (cC C) = none := hf
    have hP : P = [(E0, some v0), (E1, some v1)] := hP
    simp only [Bool.and_eq_true, decide_eq_true_eq] at k7
    obtain ⟨rfl, rfl, s0, s1⟩ := k7
    refine main [] [] E0 E1 hP s0 s1 (fun L ρ h q e f' hf' => by cases hf') (fun L ρ h q e f' hf' => by cases hf') (fun L ρ h q => ?_)
    have := q.2.2.2.1 193 2 (by rw [j5]; decide) sh_m.2.2 (clook_none hf)
    rw [show tyP (PofW gT (some [(194, 0, 1984)]) false) 193 2 = tyP (PofW gT none false) 193 2 from rfl, ty_m.2.2.1, ty_m.2.2.2] at this
    exact this
  · cases k7
theorem again_keeps {c : aCt} (hc : kaB c = true) (hB : BytesOK) (g : bG) (l : Launch) : Keeps g l gT c := SK_k (again_sk hc hB g l)
end
