/-! the constructors, run by program: the heaps one after another -/
def cH0 (L : Nat) (xs : Nat → Int32) : gH := gp_start L xs
def cH1 (L : Nat) (xs : Nat → Int32) : gH := (2, 17, gp_u1 (gp_sh (cH0 L xs)) 1 (11, 17), gp_ur (gp_I (cH0 L xs)) 1 (fun _ => 0), gp_ur (gp_L (cH0 L xs)) 1 (fun _ => 0#64), gp_ur (gp_R (cH0 L xs)) 1 (fun _ => none))
def cH2 (L : Nat) (xs : Nat → Int32) : gH := (3, 24, gp_u1 (gp_sh (cH1 L xs)) 2 (100, 7), gp_ur (gp_I (cH1 L xs)) 2 (fun _ => 0), gp_ur (gp_L (cH1 L xs)) 2 (fun _ => 0#64), gp_ur (gp_R (cH1 L xs)) 2 (fun _ => none))
def cH3 (L : Nat) (xs : Nat → Int32) : gH := (3, 24, gp_sh (cH2 L xs), gp_I (cH2 L xs), gp_L (cH2 L xs), gp_u2 (gp_R (cH2 L xs)) 1 0 (some 2))
def cH4 (L : Nat) (xs : Nat → Int32) : gH := (4, 124, gp_u1 (gp_sh (cH3 L xs)) 3 (102, 100), gp_ur (gp_I (cH3 L xs)) 3 (fun _ => 0), gp_ur (gp_L (cH3 L xs)) 3 (fun _ => 0#64), gp_ur (gp_R (cH3 L xs)) 3 (fun _ => none))
def cH5 (L : Nat) (xs : Nat → Int32) : gH := (4, 124, gp_sh (cH4 L xs), gp_I (cH4 L xs), gp_L (cH4 L xs), gp_u2 (gp_R (cH4 L xs)) 1 1 (some 3))
def cH6 (L : Nat) (xs : Nat → Int32) : gH := (5, 132, gp_u1 (gp_sh (cH5 L xs)) 4 (103, 8), gp_ur (gp_I (cH5 L xs)) 4 (fun _ => 0), gp_ur (gp_L (cH5 L xs)) 4 (fun _ => 0#64), gp_ur (gp_R (cH5 L xs)) 4 (fun _ => none))
def cH7 (L : Nat) (xs : Nat → Int32) : gH := (5, 132, gp_sh (cH6 L xs), gp_I (cH6 L xs), gp_L (cH6 L xs), gp_u2 (gp_R (cH6 L xs)) 1 3 (some 4))
def cH8 (L : Nat) (xs : Nat → Int32) : gH := (6, 140, gp_u1 (gp_sh (cH7 L xs)) 5 (103, 8), gp_ur (gp_I (cH7 L xs)) 5 (fun _ => 0), gp_ur (gp_L (cH7 L xs)) 5 (fun _ => 0#64), gp_ur (gp_R (cH7 L xs)) 5 (fun _ => none))
def cH9 (L : Nat) (xs : Nat → Int32) : gH := (6, 140, gp_sh (cH8 L xs), gp_I (cH8 L xs), gp_L (cH8 L xs), gp_u2 (gp_R (cH8 L xs)) 1 4 (some 5))
def cH10 (L : Nat) (xs : Nat → Int32) : gH := (7, 145, gp_u1 (gp_sh (cH9 L xs)) 6 (4, 5), gp_ur (gp_I (cH9 L xs)) 6 (fun _ => 0), gp_ur (gp_L (cH9 L xs)) 6 (fun _ => 0#64), gp_ur (gp_R (cH9 L xs)) 6 (fun _ => none))
def cH11 (L : Nat) (xs : Nat → Int32) : gH := (8, 155, gp_u1 (gp_sh (cH10 L xs)) 7 (9, 10), gp_ur (gp_I (cH10 L xs)) 7 (fun _ => 0), gp_ur (gp_L (cH10 L xs)) 7 (fun _ => 0#64), gp_ur (gp_R (cH10 L xs)) 7 (fun _ => none))
def cH12 (L : Nat) (xs : Nat → Int32) : gH := (8, 155, gp_sh (cH11 L xs), gp_u2 (gp_I (cH11 L xs)) 7 0 61, gp_L (cH11 L xs), gp_R (cH11 L xs))
def cH13 (L : Nat) (xs : Nat → Int32) : gH := (9, 216, gp_u1 (gp_sh (cH12 L xs)) 8 (101, 61), gp_ur (gp_I (cH12 L xs)) 8 (fun _ => 0), gp_ur (gp_L (cH12 L xs)) 8 (fun _ => 0#64), gp_ur (gp_R (cH12 L xs)) 8 (fun _ => none))
def cH14 (L : Nat) (xs : Nat → Int32) : gH := (9, 216, gp_sh (cH13 L xs), gp_I (cH13 L xs), gp_L (cH13 L xs), gp_u2 (gp_R (cH13 L xs)) 7 1 (some 8))
def cH15 (L : Nat) (xs : Nat → Int32) : gH := (10, 277, gp_u1 (gp_sh (cH14 L xs)) 9 (101, 61), gp_ur (gp_I (cH14 L xs)) 9 (fun _ => 0), gp_ur (gp_L (cH14 L xs)) 9 (fun _ => 0#64), gp_ur (gp_R (cH14 L xs)) 9 (fun _ => none))
def cH16 (L : Nat) (xs : Nat → Int32) : gH := (10, 277, gp_sh (cH15 L xs), gp_I (cH15 L xs), gp_L (cH15 L xs), gp_u2 (gp_R (cH15 L xs)) 7 2 (some 9))
def cH17 (L : Nat) (xs : Nat → Int32) : gH := (11, 338, gp_u1 (gp_sh (cH16 L xs)) 10 (100, 61), gp_ur (gp_I (cH16 L xs)) 10 (fun _ => 0), gp_ur (gp_L (cH16 L xs)) 10 (fun _ => 0#64), gp_ur (gp_R (cH16 L xs)) 10 (fun _ => none))
def cH18 (L : Nat) (xs : Nat → Int32) : gH := (11, 338, gp_sh (cH17 L xs), gp_I (cH17 L xs), gp_L (cH17 L xs), gp_u2 (gp_R (cH17 L xs)) 7 3 (some 10))
def cH19 (L : Nat) (xs : Nat → Int32) : gH := (12, 399, gp_u1 (gp_sh (cH18 L xs)) 11 (100, 61), gp_ur (gp_I (cH18 L xs)) 11 (fun _ => 0), gp_ur (gp_L (cH18 L xs)) 11 (fun _ => 0#64), gp_ur (gp_R (cH18 L xs)) 11 (fun _ => none))
def cH20 (L : Nat) (xs : Nat → Int32) : gH := (12, 399, gp_sh (cH19 L xs), gp_I (cH19 L xs), gp_L (cH19 L xs), gp_u2 (gp_R (cH19 L xs)) 7 4 (some 11))
def cH21 (L : Nat) (xs : Nat → Int32) : gH := (13, 460, gp_u1 (gp_sh (cH20 L xs)) 12 (100, 61), gp_ur (gp_I (cH20 L xs)) 12 (fun _ => 0), gp_ur (gp_L (cH20 L xs)) 12 (fun _ => 0#64), gp_ur (gp_R (cH20 L xs)) 12 (fun _ => none))
def cH22 (L : Nat) (xs : Nat → Int32) : gH := (13, 460, gp_sh (cH21 L xs), gp_I (cH21 L xs), gp_L (cH21 L xs), gp_u2 (gp_R (cH21 L xs)) 7 5 (some 12))
def cH23 (L : Nat) (xs : Nat → Int32) : gH := (13, 460, gp_sh (cH22 L xs), gp_I (cH22 L xs), gp_L (cH22 L xs), gp_u2 (gp_R (cH22 L xs)) 6 0 (some 7))
def cH24 (L : Nat) (xs : Nat → Int32) : gH := (14, 521, gp_u1 (gp_sh (cH23 L xs)) 13 (100, 61), gp_ur (gp_I (cH23 L xs)) 13 (fun _ => 0), gp_ur (gp_L (cH23 L xs)) 13 (fun _ => 0#64), gp_ur (gp_R (cH23 L xs)) 13 (fun _ => none))
def cH25 (L : Nat) (xs : Nat → Int32) : gH := (14, 521, gp_sh (cH24 L xs), gp_I (cH24 L xs), gp_L (cH24 L xs), gp_u2 (gp_R (cH24 L xs)) 6 1 (some 13))
def cH26 (L : Nat) (xs : Nat → Int32) : gH := (15, 582, gp_u1 (gp_sh (cH25 L xs)) 14 (100, 61), gp_ur (gp_I (cH25 L xs)) 14 (fun _ => 0), gp_ur (gp_L (cH25 L xs)) 14 (fun _ => 0#64), gp_ur (gp_R (cH25 L xs)) 14 (fun _ => none))
def cH27 (L : Nat) (xs : Nat → Int32) : gH := (15, 582, gp_sh (cH26 L xs), gp_I (cH26 L xs), gp_L (cH26 L xs), gp_u2 (gp_R (cH26 L xs)) 6 2 (some 14))
def cH28 (L : Nat) (xs : Nat → Int32) : gH := (16, 643, gp_u1 (gp_sh (cH27 L xs)) 15 (100, 61), gp_ur (gp_I (cH27 L xs)) 15 (fun _ => 0), gp_ur (gp_L (cH27 L xs)) 15 (fun _ => 0#64), gp_ur (gp_R (cH27 L xs)) 15 (fun _ => none))
def cH29 (L : Nat) (xs : Nat → Int32) : gH := (16, 643, gp_sh (cH28 L xs), gp_I (cH28 L xs), gp_L (cH28 L xs), gp_u2 (gp_R (cH28 L xs)) 6 3 (some 15))
def cH30 (L : Nat) (xs : Nat → Int32) : gH := (17, 704, gp_u1 (gp_sh (cH29 L xs)) 16 (100, 61), gp_ur (gp_I (cH29 L xs)) 16 (fun _ => 0), gp_ur (gp_L (cH29 L xs)) 16 (fun _ => 0#64), gp_ur (gp_R (cH29 L xs)) 16 (fun _ => none))
def cH31 (L : Nat) (xs : Nat → Int32) : gH := (17, 704, gp_sh (cH30 L xs), gp_I (cH30 L xs), gp_L (cH30 L xs), gp_u2 (gp_R (cH30 L xs)) 7 6 (some 16))
def cH32 (L : Nat) (xs : Nat → Int32) : gH := (18, 765, gp_u1 (gp_sh (cH31 L xs)) 17 (100, 61), gp_ur (gp_I (cH31 L xs)) 17 (fun _ => 0), gp_ur (gp_L (cH31 L xs)) 17 (fun _ => 0#64), gp_ur (gp_R (cH31 L xs)) 17 (fun _ => none))
def cH33 (L : Nat) (xs : Nat → Int32) : gH := (18, 765, gp_sh (cH32 L xs), gp_I (cH32 L xs), gp_L (cH32 L xs), gp_u2 (gp_R (cH32 L xs)) 7 7 (some 17))
def cH34 (L : Nat) (xs : Nat → Int32) : gH := (19, 826, gp_u1 (gp_sh (cH33 L xs)) 18 (100, 61), gp_ur (gp_I (cH33 L xs)) 18 (fun _ => 0), gp_ur (gp_L (cH33 L xs)) 18 (fun _ => 0#64), gp_ur (gp_R (cH33 L xs)) 18 (fun _ => none))
def cH35 (L : Nat) (xs : Nat → Int32) : gH := (19, 826, gp_sh (cH34 L xs), gp_I (cH34 L xs), gp_L (cH34 L xs), gp_u2 (gp_R (cH34 L xs)) 7 8 (some 18))
def cH36 (L : Nat) (xs : Nat → Int32) : gH := (20, 887, gp_u1 (gp_sh (cH35 L xs)) 19 (100, 61), gp_ur (gp_I (cH35 L xs)) 19 (fun _ => 0), gp_ur (gp_L (cH35 L xs)) 19 (fun _ => 0#64), gp_ur (gp_R (cH35 L xs)) 19 (fun _ => none))
def cH37 (L : Nat) (xs : Nat → Int32) : gH := (20, 887, gp_sh (cH36 L xs), gp_I (cH36 L xs), gp_L (cH36 L xs), gp_u2 (gp_R (cH36 L xs)) 7 9 (some 19))
def cH38 (L : Nat) (xs : Nat → Int32) : gH := (20, 887, gp_sh (cH37 L xs), gp_u2 (gp_I (cH37 L xs)) 1 7 1, gp_L (cH37 L xs), gp_R (cH37 L xs))
def cH39 (L : Nat) (xs : Nat → Int32) : gH := (21, 893, gp_u1 (gp_sh (cH38 L xs)) 20 (1, 6), gp_ur (gp_I (cH38 L xs)) 20 (fun _ => 0), gp_ur (gp_L (cH38 L xs)) 20 (fun _ => 0#64), gp_ur (gp_R (cH38 L xs)) 20 (fun _ => none))
def cH40 (L : Nat) (xs : Nat → Int32) : gH := (22, 954, gp_u1 (gp_sh (cH39 L xs)) 21 (100, 61), gp_ur (gp_I (cH39 L xs)) 21 (fun _ => 0), gp_ur (gp_L (cH39 L xs)) 21 (fun _ => 0#64), gp_ur (gp_R (cH39 L xs)) 21 (fun _ => none))
def cH41 (L : Nat) (xs : Nat → Int32) : gH := (22, 954, gp_sh (cH40 L xs), gp_I (cH40 L xs), gp_L (cH40 L xs), gp_u2 (gp_R (cH40 L xs)) 20 1 (some 21))
def cH42 (L : Nat) (xs : Nat → Int32) : gH := (23, 4554, gp_u1 (gp_sh (cH41 L xs)) 22 (100, 3600), gp_ur (gp_I (cH41 L xs)) 22 (fun _ => 0), gp_ur (gp_L (cH41 L xs)) 22 (fun _ => 0#64), gp_ur (gp_R (cH41 L xs)) 22 (fun _ => none))
def cH43 (L : Nat) (xs : Nat → Int32) : gH := (23, 4554, gp_sh (cH42 L xs), gp_I (cH42 L xs), gp_L (cH42 L xs), gp_u2 (gp_R (cH42 L xs)) 20 2 (some 22))
def cH44 (L : Nat) (xs : Nat → Int32) : gH := (24, 4614, gp_u1 (gp_sh (cH43 L xs)) 23 (100, 60), gp_ur (gp_I (cH43 L xs)) 23 (fun _ => 0), gp_ur (gp_L (cH43 L xs)) 23 (fun _ => 0#64), gp_ur (gp_R (cH43 L xs)) 23 (fun _ => none))
def cH45 (L : Nat) (xs : Nat → Int32) : gH := (24, 4614, gp_sh (cH44 L xs), gp_I (cH44 L xs), gp_L (cH44 L xs), gp_u2 (gp_R (cH44 L xs)) 20 3 (some 23))
def cH46 (L : Nat) (xs : Nat → Int32) : gH := (25, 4674, gp_u1 (gp_sh (cH45 L xs)) 24 (100, 60), gp_ur (gp_I (cH45 L xs)) 24 (fun _ => 0), gp_ur (gp_L (cH45 L xs)) 24 (fun _ => 0#64), gp_ur (gp_R (cH45 L xs)) 24 (fun _ => none))
def cH47 (L : Nat) (xs : Nat → Int32) : gH := (25, 4674, gp_sh (cH46 L xs), gp_I (cH46 L xs), gp_L (cH46 L xs), gp_u2 (gp_R (cH46 L xs)) 20 4 (some 24))
def cH48 (L : Nat) (xs : Nat → Int32) : gH := (26, 4684, gp_u1 (gp_sh (cH47 L xs)) 25 (9, 10), gp_ur (gp_I (cH47 L xs)) 25 (fun _ => 0), gp_ur (gp_L (cH47 L xs)) 25 (fun _ => 0#64), gp_ur (gp_R (cH47 L xs)) 25 (fun _ => none))
def cH49 (L : Nat) (xs : Nat → Int32) : gH := (26, 4684, gp_sh (cH48 L xs), gp_u2 (gp_I (cH48 L xs)) 25 0 1, gp_L (cH48 L xs), gp_R (cH48 L xs))
def cH50 (L : Nat) (xs : Nat → Int32) : gH := (27, 4685, gp_u1 (gp_sh (cH49 L xs)) 26 (101, 1), gp_ur (gp_I (cH49 L xs)) 26 (fun _ => 0), gp_ur (gp_L (cH49 L xs)) 26 (fun _ => 0#64), gp_ur (gp_R (cH49 L xs)) 26 (fun _ => none))
def cH51 (L : Nat) (xs : Nat → Int32) : gH := (27, 4685, gp_sh (cH50 L xs), gp_I (cH50 L xs), gp_L (cH50 L xs), gp_u2 (gp_R (cH50 L xs)) 25 1 (some 26))
def cH52 (L : Nat) (xs : Nat → Int32) : gH := (28, 4686, gp_u1 (gp_sh (cH51 L xs)) 27 (101, 1), gp_ur (gp_I (cH51 L xs)) 27 (fun _ => 0), gp_ur (gp_L (cH51 L xs)) 27 (fun _ => 0#64), gp_ur (gp_R (cH51 L xs)) 27 (fun _ => none))
def cH53 (L : Nat) (xs : Nat → Int32) : gH := (28, 4686, gp_sh (cH52 L xs), gp_I (cH52 L xs), gp_L (cH52 L xs), gp_u2 (gp_R (cH52 L xs)) 25 2 (some 27))
def cH54 (L : Nat) (xs : Nat → Int32) : gH := (29, 4687, gp_u1 (gp_sh (cH53 L xs)) 28 (100, 1), gp_ur (gp_I (cH53 L xs)) 28 (fun _ => 0), gp_ur (gp_L (cH53 L xs)) 28 (fun _ => 0#64), gp_ur (gp_R (cH53 L xs)) 28 (fun _ => none))
def cH55 (L : Nat) (xs : Nat → Int32) : gH := (29, 4687, gp_sh (cH54 L xs), gp_I (cH54 L xs), gp_L (cH54 L xs), gp_u2 (gp_R (cH54 L xs)) 25 3 (some 28))
def cH56 (L : Nat) (xs : Nat → Int32) : gH := (30, 4688, gp_u1 (gp_sh (cH55 L xs)) 29 (100, 1), gp_ur (gp_I (cH55 L xs)) 29 (fun _ => 0), gp_ur (gp_L (cH55 L xs)) 29 (fun _ => 0#64), gp_ur (gp_R (cH55 L xs)) 29 (fun _ => none))
def cH57 (L : Nat) (xs : Nat → Int32) : gH := (30, 4688, gp_sh (cH56 L xs), gp_I (cH56 L xs), gp_L (cH56 L xs), gp_u2 (gp_R (cH56 L xs)) 25 4 (some 29))
def cH58 (L : Nat) (xs : Nat → Int32) : gH := (31, 4689, gp_u1 (gp_sh (cH57 L xs)) 30 (100, 1), gp_ur (gp_I (cH57 L xs)) 30 (fun _ => 0), gp_ur (gp_L (cH57 L xs)) 30 (fun _ => 0#64), gp_ur (gp_R (cH57 L xs)) 30 (fun _ => none))
def cH59 (L : Nat) (xs : Nat → Int32) : gH := (31, 4689, gp_sh (cH58 L xs), gp_I (cH58 L xs), gp_L (cH58 L xs), gp_u2 (gp_R (cH58 L xs)) 25 5 (some 30))
def cH60 (L : Nat) (xs : Nat → Int32) : gH := (31, 4689, gp_sh (cH59 L xs), gp_I (cH59 L xs), gp_L (cH59 L xs), gp_u2 (gp_R (cH59 L xs)) 20 5 (some 25))
def cH61 (L : Nat) (xs : Nat → Int32) : gH := (31, 4689, gp_sh (cH60 L xs), gp_I (cH60 L xs), gp_L (cH60 L xs), gp_u2 (gp_R (cH60 L xs)) 20 0 (some 6))
def cH62 (L : Nat) (xs : Nat → Int32) : gH := (31, 4689, gp_sh (cH61 L xs), gp_I (cH61 L xs), gp_L (cH61 L xs), gp_u2 (gp_R (cH61 L xs)) 1 8 (some 20))
def cH63 (L : Nat) (xs : Nat → Int32) : gH := (32, 4695, gp_u1 (gp_sh (cH62 L xs)) 31 (3, 6), gp_ur (gp_I (cH62 L xs)) 31 (fun _ => 0), gp_ur (gp_L (cH62 L xs)) 31 (fun _ => 0#64), gp_ur (gp_R (cH62 L xs)) 31 (fun _ => none))
def cH64 (L : Nat) (xs : Nat → Int32) : gH := (33, 8416, gp_u1 (gp_sh (cH63 L xs)) 32 (100, 3721), gp_ur (gp_I (cH63 L xs)) 32 (fun _ => 0), gp_ur (gp_L (cH63 L xs)) 32 (fun _ => 0#64), gp_ur (gp_R (cH63 L xs)) 32 (fun _ => none))
def cH65 (L : Nat) (xs : Nat → Int32) : gH := (33, 8416, gp_sh (cH64 L xs), gp_I (cH64 L xs), gp_L (cH64 L xs), gp_u2 (gp_R (cH64 L xs)) 31 0 (some 32))
def cH66 (L : Nat) (xs : Nat → Int32) : gH := (34, 12137, gp_u1 (gp_sh (cH65 L xs)) 33 (100, 3721), gp_ur (gp_I (cH65 L xs)) 33 (fun _ => 0), gp_ur (gp_L (cH65 L xs)) 33 (fun _ => 0#64), gp_ur (gp_R (cH65 L xs)) 33 (fun _ => none))
def cH67 (L : Nat) (xs : Nat → Int32) : gH := (34, 12137, gp_sh (cH66 L xs), gp_I (cH66 L xs), gp_L (cH66 L xs), gp_u2 (gp_R (cH66 L xs)) 31 1 (some 33))
def cH68 (L : Nat) (xs : Nat → Int32) : gH := (35, 15858, gp_u1 (gp_sh (cH67 L xs)) 34 (100, 3721), gp_ur (gp_I (cH67 L xs)) 34 (fun _ => 0), gp_ur (gp_L (cH67 L xs)) 34 (fun _ => 0#64), gp_ur (gp_R (cH67 L xs)) 34 (fun _ => none))
def cH69 (L : Nat) (xs : Nat → Int32) : gH := (35, 15858, gp_sh (cH68 L xs), gp_I (cH68 L xs), gp_L (cH68 L xs), gp_u2 (gp_R (cH68 L xs)) 31 2 (some 34))
def cH70 (L : Nat) (xs : Nat → Int32) : gH := (36, 19579, gp_u1 (gp_sh (cH69 L xs)) 35 (100, 3721), gp_ur (gp_I (cH69 L xs)) 35 (fun _ => 0), gp_ur (gp_L (cH69 L xs)) 35 (fun _ => 0#64), gp_ur (gp_R (cH69 L xs)) 35 (fun _ => none))
def cH71 (L : Nat) (xs : Nat → Int32) : gH := (36, 19579, gp_sh (cH70 L xs), gp_I (cH70 L xs), gp_L (cH70 L xs), gp_u2 (gp_R (cH70 L xs)) 31 3 (some 35))
def cH72 (L : Nat) (xs : Nat → Int32) : gH := (37, 19640, gp_u1 (gp_sh (cH71 L xs)) 36 (100, 61), gp_ur (gp_I (cH71 L xs)) 36 (fun _ => 0), gp_ur (gp_L (cH71 L xs)) 36 (fun _ => 0#64), gp_ur (gp_R (cH71 L xs)) 36 (fun _ => none))
def cH73 (L : Nat) (xs : Nat → Int32) : gH := (37, 19640, gp_sh (cH72 L xs), gp_I (cH72 L xs), gp_L (cH72 L xs), gp_u2 (gp_R (cH72 L xs)) 31 4 (some 36))
def cH74 (L : Nat) (xs : Nat → Int32) : gH := (38, 19701, gp_u1 (gp_sh (cH73 L xs)) 37 (100, 61), gp_ur (gp_I (cH73 L xs)) 37 (fun _ => 0), gp_ur (gp_L (cH73 L xs)) 37 (fun _ => 0#64), gp_ur (gp_R (cH73 L xs)) 37 (fun _ => none))
def cH75 (L : Nat) (xs : Nat → Int32) : gH := (38, 19701, gp_sh (cH74 L xs), gp_I (cH74 L xs), gp_L (cH74 L xs), gp_u2 (gp_R (cH74 L xs)) 31 5 (some 37))
def cH76 (L : Nat) (xs : Nat → Int32) : gH := (38, 19701, gp_sh (cH75 L xs), gp_I (cH75 L xs), gp_L (cH75 L xs), gp_u2 (gp_R (cH75 L xs)) 1 9 (some 31))
def cH77 (L : Nat) (xs : Nat → Int32) : gH := (39, 19703, gp_u1 (gp_sh (cH76 L xs)) 38 (0, 2), gp_ur (gp_I (cH76 L xs)) 38 (fun _ => 0), gp_ur (gp_L (cH76 L xs)) 38 (fun _ => 0#64), gp_ur (gp_R (cH76 L xs)) 38 (fun _ => none))
def cH78 (L : Nat) (xs : Nat → Int32) : gH := (40, 19764, gp_u1 (gp_sh (cH77 L xs)) 39 (101, 61), gp_ur (gp_I (cH77 L xs)) 39 (fun _ => 0), gp_ur (gp_L (cH77 L xs)) 39 (fun _ => 0#64), gp_ur (gp_R (cH77 L xs)) 39 (fun _ => none))
def cH79 (L : Nat) (xs : Nat → Int32) : gH := (40, 19764, gp_sh (cH78 L xs), gp_I (cH78 L xs), gp_L (cH78 L xs), gp_u2 (gp_R (cH78 L xs)) 38 0 (some 39))
def cH80 (L : Nat) (xs : Nat → Int32) : gH := (41, 19825, gp_u1 (gp_sh (cH79 L xs)) 40 (101, 61), gp_ur (gp_I (cH79 L xs)) 40 (fun _ => 0), gp_ur (gp_L (cH79 L xs)) 40 (fun _ => 0#64), gp_ur (gp_R (cH79 L xs)) 40 (fun _ => none))
def cH81 (L : Nat) (xs : Nat → Int32) : gH := (41, 19825, gp_sh (cH80 L xs), gp_I (cH80 L xs), gp_L (cH80 L xs), gp_u2 (gp_R (cH80 L xs)) 38 1 (some 40))
def cH82 (L : Nat) (xs : Nat → Int32) : gH := (41, 19825, gp_sh (cH81 L xs), gp_I (cH81 L xs), gp_L (cH81 L xs), gp_u2 (gp_R (cH81 L xs)) 1 10 (some 38))
def cH83 (L : Nat) (xs : Nat → Int32) : gH := (42, 19831, gp_u1 (gp_sh (cH82 L xs)) 41 (6, 6), gp_ur (gp_I (cH82 L xs)) 41 (fun _ => 0), gp_ur (gp_L (cH82 L xs)) 41 (fun _ => 0#64), gp_ur (gp_R (cH82 L xs)) 41 (fun _ => none))
def cH84 (L : Nat) (xs : Nat → Int32) : gH := (43, 19833, gp_u1 (gp_sh (cH83 L xs)) 42 (0, 2), gp_ur (gp_I (cH83 L xs)) 42 (fun _ => 0), gp_ur (gp_L (cH83 L xs)) 42 (fun _ => 0#64), gp_ur (gp_R (cH83 L xs)) 42 (fun _ => none))
def cH85 (L : Nat) (xs : Nat → Int32) : gH := (44, 19894, gp_u1 (gp_sh (cH84 L xs)) 43 (101, 61), gp_ur (gp_I (cH84 L xs)) 43 (fun _ => 0), gp_ur (gp_L (cH84 L xs)) 43 (fun _ => 0#64), gp_ur (gp_R (cH84 L xs)) 43 (fun _ => none))
def cH86 (L : Nat) (xs : Nat → Int32) : gH := (44, 19894, gp_sh (cH85 L xs), gp_I (cH85 L xs), gp_L (cH85 L xs), gp_u2 (gp_R (cH85 L xs)) 42 0 (some 43))
def cH87 (L : Nat) (xs : Nat → Int32) : gH := (45, 19955, gp_u1 (gp_sh (cH86 L xs)) 44 (101, 61), gp_ur (gp_I (cH86 L xs)) 44 (fun _ => 0), gp_ur (gp_L (cH86 L xs)) 44 (fun _ => 0#64), gp_ur (gp_R (cH86 L xs)) 44 (fun _ => none))
def cH88 (L : Nat) (xs : Nat → Int32) : gH := (45, 19955, gp_sh (cH87 L xs), gp_I (cH87 L xs), gp_L (cH87 L xs), gp_u2 (gp_R (cH87 L xs)) 42 1 (some 44))
def cH89 (L : Nat) (xs : Nat → Int32) : gH := (45, 19955, gp_sh (cH88 L xs), gp_I (cH88 L xs), gp_L (cH88 L xs), gp_u2 (gp_R (cH88 L xs)) 41 2 (some 42))
def cH90 (L : Nat) (xs : Nat → Int32) : gH := (46, 20015, gp_u1 (gp_sh (cH89 L xs)) 45 (100, 60), gp_ur (gp_I (cH89 L xs)) 45 (fun _ => 0), gp_ur (gp_L (cH89 L xs)) 45 (fun _ => 0#64), gp_ur (gp_R (cH89 L xs)) 45 (fun _ => none))
def cH91 (L : Nat) (xs : Nat → Int32) : gH := (46, 20015, gp_sh (cH90 L xs), gp_I (cH90 L xs), gp_L (cH90 L xs), gp_u2 (gp_R (cH90 L xs)) 41 3 (some 45))
def cH92 (L : Nat) (xs : Nat → Int32) : gH := (46, 20015, gp_sh (cH91 L xs), gp_I (cH91 L xs), gp_L (cH91 L xs), gp_u2 (gp_R (cH91 L xs)) 41 0 (some 6))
def cH93 (L : Nat) (xs : Nat → Int32) : gH := (46, 20015, gp_sh (cH92 L xs), gp_I (cH92 L xs), gp_L (cH92 L xs), gp_u2 (gp_R (cH92 L xs)) 41 1 (some 31))
def cH94 (L : Nat) (xs : Nat → Int32) : gH := (46, 20015, gp_sh (cH93 L xs), gp_I (cH93 L xs), gp_L (cH93 L xs), gp_u2 (gp_R (cH93 L xs)) 1 11 (some 41))
def cH95 (L : Nat) (xs : Nat → Int32) : gH := (47, 20024, gp_u1 (gp_sh (cH94 L xs)) 46 (5, 9), gp_ur (gp_I (cH94 L xs)) 46 (fun _ => 0), gp_ur (gp_L (cH94 L xs)) 46 (fun _ => 0#64), gp_ur (gp_R (cH94 L xs)) 46 (fun _ => none))
def cH96 (L : Nat) (xs : Nat → Int32) : gH := (48, 20124, gp_u1 (gp_sh (cH95 L xs)) 47 (103, 100), gp_ur (gp_I (cH95 L xs)) 47 (fun _ => 0), gp_ur (gp_L (cH95 L xs)) 47 (fun _ => 0#64), gp_ur (gp_R (cH95 L xs)) 47 (fun _ => none))
def cH97 (L : Nat) (xs : Nat → Int32) : gH := (48, 20124, gp_sh (cH96 L xs), gp_I (cH96 L xs), gp_L (cH96 L xs), gp_u2 (gp_R (cH96 L xs)) 46 2 (some 47))
def cH98 (L : Nat) (xs : Nat → Int32) : gH := (48, 20124, gp_sh (cH97 L xs), gp_I (cH97 L xs), gp_L (cH97 L xs), gp_u2 (gp_R (cH97 L xs)) 46 0 (some 6))
def cH99 (L : Nat) (xs : Nat → Int32) : gH := (48, 20124, gp_sh (cH98 L xs), gp_I (cH98 L xs), gp_L (cH98 L xs), gp_u2 (gp_R (cH98 L xs)) 46 1 (some 20))
def cH100 (L : Nat) (xs : Nat → Int32) : gH := (48, 20124, gp_sh (cH99 L xs), gp_I (cH99 L xs), gp_L (cH99 L xs), gp_u2 (gp_R (cH99 L xs)) 1 12 (some 46))
def cH101 (L : Nat) (xs : Nat → Int32) : gH := (49, 20128, gp_u1 (gp_sh (cH100 L xs)) 48 (10, 4), gp_ur (gp_I (cH100 L xs)) 48 (fun _ => 0), gp_ur (gp_L (cH100 L xs)) 48 (fun _ => 0#64), gp_ur (gp_R (cH100 L xs)) 48 (fun _ => none))
def cH102 (L : Nat) (xs : Nat → Int32) : gH := (50, 20136, gp_u1 (gp_sh (cH101 L xs)) 49 (100, 8), gp_ur (gp_I (cH101 L xs)) 49 (fun _ => 0), gp_ur (gp_L (cH101 L xs)) 49 (fun _ => 0#64), gp_ur (gp_R (cH101 L xs)) 49 (fun _ => none))
def cH103 (L : Nat) (xs : Nat → Int32) : gH := (50, 20136, gp_sh (cH102 L xs), gp_I (cH102 L xs), gp_L (cH102 L xs), gp_u2 (gp_R (cH102 L xs)) 48 1 (some 49))
def cH104 (L : Nat) (xs : Nat → Int32) : gH := (51, 20392, gp_u1 (gp_sh (cH103 L xs)) 50 (100, 256), gp_ur (gp_I (cH103 L xs)) 50 (fun _ => 0), gp_ur (gp_L (cH103 L xs)) 50 (fun _ => 0#64), gp_ur (gp_R (cH103 L xs)) 50 (fun _ => none))
def cH105 (L : Nat) (xs : Nat → Int32) : gH := (51, 20392, gp_sh (cH104 L xs), gp_I (cH104 L xs), gp_L (cH104 L xs), gp_u2 (gp_R (cH104 L xs)) 48 3 (some 50))
def cH106 (L : Nat) (xs : Nat → Int32) : gH := (51, 20392, gp_sh (cH105 L xs), gp_I (cH105 L xs), gp_L (cH105 L xs), gp_u2 (gp_R (cH105 L xs)) 48 0 (some 6))
def cH107 (L : Nat) (xs : Nat → Int32) : gH := (51, 20392, gp_sh (cH106 L xs), gp_I (cH106 L xs), gp_L (cH106 L xs), gp_u2 (gp_R (cH106 L xs)) 1 13 (some 48))
def cH108 (L : Nat) (xs : Nat → Int32) : gH := (52, 20401, gp_u1 (gp_sh (cH107 L xs)) 51 (8, 9), gp_ur (gp_I (cH107 L xs)) 51 (fun _ => 0), gp_ur (gp_L (cH107 L xs)) 51 (fun _ => 0#64), gp_ur (gp_R (cH107 L xs)) 51 (fun _ => none))
def cH109 (L : Nat) (xs : Nat → Int32) : gH := (53, 20404, gp_u1 (gp_sh (cH108 L xs)) 52 (103, 3), gp_ur (gp_I (cH108 L xs)) 52 (fun _ => 0), gp_ur (gp_L (cH108 L xs)) 52 (fun _ => 0#64), gp_ur (gp_R (cH108 L xs)) 52 (fun _ => none))
def cH110 (L : Nat) (xs : Nat → Int32) : gH := (53, 20404, gp_sh (cH109 L xs), gp_I (cH109 L xs), gp_L (cH109 L xs), gp_u2 (gp_R (cH109 L xs)) 51 0 (some 52))
def cH111 (L : Nat) (xs : Nat → Int32) : gH := (54, 20407, gp_u1 (gp_sh (cH110 L xs)) 53 (100, 3), gp_ur (gp_I (cH110 L xs)) 53 (fun _ => 0), gp_ur (gp_L (cH110 L xs)) 53 (fun _ => 0#64), gp_ur (gp_R (cH110 L xs)) 53 (fun _ => none))
def cH112 (L : Nat) (xs : Nat → Int32) : gH := (54, 20407, gp_sh (cH111 L xs), gp_I (cH111 L xs), gp_L (cH111 L xs), gp_u2 (gp_R (cH111 L xs)) 51 1 (some 53))
def cH113 (L : Nat) (xs : Nat → Int32) : gH := (55, 20410, gp_u1 (gp_sh (cH112 L xs)) 54 (100, 3), gp_ur (gp_I (cH112 L xs)) 54 (fun _ => 0), gp_ur (gp_L (cH112 L xs)) 54 (fun _ => 0#64), gp_ur (gp_R (cH112 L xs)) 54 (fun _ => none))
def cH114 (L : Nat) (xs : Nat → Int32) : gH := (55, 20410, gp_sh (cH113 L xs), gp_I (cH113 L xs), gp_L (cH113 L xs), gp_u2 (gp_R (cH113 L xs)) 51 3 (some 54))
def cH115 (L : Nat) (xs : Nat → Int32) : gH := (56, 20411, gp_u1 (gp_sh (cH114 L xs)) 55 (100, 1), gp_ur (gp_I (cH114 L xs)) 55 (fun _ => 0), gp_ur (gp_L (cH114 L xs)) 55 (fun _ => 0#64), gp_ur (gp_R (cH114 L xs)) 55 (fun _ => none))
def cH116 (L : Nat) (xs : Nat → Int32) : gH := (56, 20411, gp_sh (cH115 L xs), gp_I (cH115 L xs), gp_L (cH115 L xs), gp_u2 (gp_R (cH115 L xs)) 51 6 (some 55))
def cH117 (L : Nat) (xs : Nat → Int32) : gH := (57, 20412, gp_u1 (gp_sh (cH116 L xs)) 56 (100, 1), gp_ur (gp_I (cH116 L xs)) 56 (fun _ => 0), gp_ur (gp_L (cH116 L xs)) 56 (fun _ => 0#64), gp_ur (gp_R (cH116 L xs)) 56 (fun _ => none))
def cH118 (L : Nat) (xs : Nat → Int32) : gH := (57, 20412, gp_sh (cH117 L xs), gp_I (cH117 L xs), gp_L (cH117 L xs), gp_u2 (gp_R (cH117 L xs)) 51 7 (some 56))
def cH119 (L : Nat) (xs : Nat → Int32) : gH := (57, 20412, gp_sh (cH118 L xs), gp_I (cH118 L xs), gp_L (cH118 L xs), gp_u2 (gp_R (cH118 L xs)) 51 5 (some 25))
def cH120 (L : Nat) (xs : Nat → Int32) : gH := (57, 20412, gp_sh (cH119 L xs), gp_I (cH119 L xs), gp_L (cH119 L xs), gp_u2 (gp_R (cH119 L xs)) 52 0 (some 25))
def cH121 (L : Nat) (xs : Nat → Int32) : gH := (57, 20412, gp_sh (cH120 L xs), gp_I (cH120 L xs), gp_L (cH120 L xs), gp_u2 (gp_R (cH120 L xs)) 52 1 (some 25))
def cH122 (L : Nat) (xs : Nat → Int32) : gH := (57, 20412, gp_sh (cH121 L xs), gp_I (cH121 L xs), gp_L (cH121 L xs), gp_u2 (gp_R (cH121 L xs)) 52 2 (some 25))
def cH123 (L : Nat) (xs : Nat → Int32) : gH := (57, 20412, gp_sh (cH122 L xs), gp_I (cH122 L xs), gp_L (cH122 L xs), gp_u2 (gp_R (cH122 L xs)) 1 14 (some 51))
def cH124 (L : Nat) (xs : Nat → Int32) : gH := (58, 20418, gp_u1 (gp_sh (cH123 L xs)) 57 (2, 6), gp_ur (gp_I (cH123 L xs)) 57 (fun _ => 0), gp_ur (gp_L (cH123 L xs)) 57 (fun _ => 0#64), gp_ur (gp_R (cH123 L xs)) 57 (fun _ => none))
def cH125 (L : Nat) (xs : Nat → Int32) : gH := (59, 20598, gp_u1 (gp_sh (cH124 L xs)) 58 (100, 180), gp_ur (gp_I (cH124 L xs)) 58 (fun _ => 0), gp_ur (gp_L (cH124 L xs)) 58 (fun _ => 0#64), gp_ur (gp_R (cH124 L xs)) 58 (fun _ => none))
def cH126 (L : Nat) (xs : Nat → Int32) : gH := (59, 20598, gp_sh (cH125 L xs), gp_I (cH125 L xs), gp_L (cH125 L xs), gp_u2 (gp_R (cH125 L xs)) 57 4 (some 58))
def cH127 (L : Nat) (xs : Nat → Int32) : gH := (60, 20778, gp_u1 (gp_sh (cH126 L xs)) 59 (100, 180), gp_ur (gp_I (cH126 L xs)) 59 (fun _ => 0), gp_ur (gp_L (cH126 L xs)) 59 (fun _ => 0#64), gp_ur (gp_R (cH126 L xs)) 59 (fun _ => none))
def cH128 (L : Nat) (xs : Nat → Int32) : gH := (60, 20778, gp_sh (cH127 L xs), gp_I (cH127 L xs), gp_L (cH127 L xs), gp_u2 (gp_R (cH127 L xs)) 57 5 (some 59))
def cH129 (L : Nat) (xs : Nat → Int32) : gH := (61, 20787, gp_u1 (gp_sh (cH128 L xs)) 60 (8, 9), gp_ur (gp_I (cH128 L xs)) 60 (fun _ => 0), gp_ur (gp_L (cH128 L xs)) 60 (fun _ => 0#64), gp_ur (gp_R (cH128 L xs)) 60 (fun _ => none))
def cH130 (L : Nat) (xs : Nat → Int32) : gH := (62, 20790, gp_u1 (gp_sh (cH129 L xs)) 61 (103, 3), gp_ur (gp_I (cH129 L xs)) 61 (fun _ => 0), gp_ur (gp_L (cH129 L xs)) 61 (fun _ => 0#64), gp_ur (gp_R (cH129 L xs)) 61 (fun _ => none))
def cH131 (L : Nat) (xs : Nat → Int32) : gH := (62, 20790, gp_sh (cH130 L xs), gp_I (cH130 L xs), gp_L (cH130 L xs), gp_u2 (gp_R (cH130 L xs)) 60 0 (some 61))
def cH132 (L : Nat) (xs : Nat → Int32) : gH := (63, 20793, gp_u1 (gp_sh (cH131 L xs)) 62 (100, 3), gp_ur (gp_I (cH131 L xs)) 62 (fun _ => 0), gp_ur (gp_L (cH131 L xs)) 62 (fun _ => 0#64), gp_ur (gp_R (cH131 L xs)) 62 (fun _ => none))
def cH133 (L : Nat) (xs : Nat → Int32) : gH := (63, 20793, gp_sh (cH132 L xs), gp_I (cH132 L xs), gp_L (cH132 L xs), gp_u2 (gp_R (cH132 L xs)) 60 1 (some 62))
def cH134 (L : Nat) (xs : Nat → Int32) : gH := (64, 20796, gp_u1 (gp_sh (cH133 L xs)) 63 (100, 3), gp_ur (gp_I (cH133 L xs)) 63 (fun _ => 0), gp_ur (gp_L (cH133 L xs)) 63 (fun _ => 0#64), gp_ur (gp_R (cH133 L xs)) 63 (fun _ => none))
def cH135 (L : Nat) (xs : Nat → Int32) : gH := (64, 20796, gp_sh (cH134 L xs), gp_I (cH134 L xs), gp_L (cH134 L xs), gp_u2 (gp_R (cH134 L xs)) 60 3 (some 63))
def cH136 (L : Nat) (xs : Nat → Int32) : gH := (65, 20797, gp_u1 (gp_sh (cH135 L xs)) 64 (100, 1), gp_ur (gp_I (cH135 L xs)) 64 (fun _ => 0), gp_ur (gp_L (cH135 L xs)) 64 (fun _ => 0#64), gp_ur (gp_R (cH135 L xs)) 64 (fun _ => none))
def cH137 (L : Nat) (xs : Nat → Int32) : gH := (65, 20797, gp_sh (cH136 L xs), gp_I (cH136 L xs), gp_L (cH136 L xs), gp_u2 (gp_R (cH136 L xs)) 60 6 (some 64))
def cH138 (L : Nat) (xs : Nat → Int32) : gH := (66, 20798, gp_u1 (gp_sh (cH137 L xs)) 65 (100, 1), gp_ur (gp_I (cH137 L xs)) 65 (fun _ => 0), gp_ur (gp_L (cH137 L xs)) 65 (fun _ => 0#64), gp_ur (gp_R (cH137 L xs)) 65 (fun _ => none))
def cH139 (L : Nat) (xs : Nat → Int32) : gH := (66, 20798, gp_sh (cH138 L xs), gp_I (cH138 L xs), gp_L (cH138 L xs), gp_u2 (gp_R (cH138 L xs)) 60 7 (some 65))
def cH140 (L : Nat) (xs : Nat → Int32) : gH := (66, 20798, gp_sh (cH139 L xs), gp_I (cH139 L xs), gp_L (cH139 L xs), gp_u2 (gp_R (cH139 L xs)) 60 5 (some 25))
def cH141 (L : Nat) (xs : Nat → Int32) : gH := (66, 20798, gp_sh (cH140 L xs), gp_I (cH140 L xs), gp_L (cH140 L xs), gp_u2 (gp_R (cH140 L xs)) 61 0 (some 25))
def cH142 (L : Nat) (xs : Nat → Int32) : gH := (66, 20798, gp_sh (cH141 L xs), gp_I (cH141 L xs), gp_L (cH141 L xs), gp_u2 (gp_R (cH141 L xs)) 61 1 (some 25))
def cH143 (L : Nat) (xs : Nat → Int32) : gH := (66, 20798, gp_sh (cH142 L xs), gp_I (cH142 L xs), gp_L (cH142 L xs), gp_u2 (gp_R (cH142 L xs)) 61 2 (some 25))
def cH144 (L : Nat) (xs : Nat → Int32) : gH := (66, 20798, gp_sh (cH143 L xs), gp_I (cH143 L xs), gp_L (cH143 L xs), gp_u2 (gp_R (cH143 L xs)) 57 0 (some 60))
def cH145 (L : Nat) (xs : Nat → Int32) : gH := (66, 20798, gp_sh (cH144 L xs), gp_I (cH144 L xs), gp_L (cH144 L xs), gp_u2 (gp_R (cH144 L xs)) 1 15 (some 57))
def cH146 (L : Nat) (xs : Nat → Int32) : gH := (67, 20801, gp_u1 (gp_sh (cH145 L xs)) 66 (7, 3), gp_ur (gp_I (cH145 L xs)) 66 (fun _ => 0), gp_ur (gp_L (cH145 L xs)) 66 (fun _ => 0#64), gp_ur (gp_R (cH145 L xs)) 66 (fun _ => none))
def cH147 (L : Nat) (xs : Nat → Int32) : gH := (72, 20885, gp_sh (gp_mna (cH146 L xs) 4 20), gp_I (gp_mna (cH146 L xs) 4 20), gp_L (gp_mna (cH146 L xs) 4 20), gp_R (gp_mna (cH146 L xs) 4 20))
def cH148 (L : Nat) (xs : Nat → Int32) : gH := (72, 20885, gp_sh (cH147 L xs), gp_I (cH147 L xs), gp_L (cH147 L xs), gp_u2 (gp_R (cH147 L xs)) 66 0 (some 67))
def cH149 (L : Nat) (xs : Nat → Int32) : gH := (73, 20889, gp_u1 (gp_sh (cH148 L xs)) 72 (100, 4), gp_ur (gp_I (cH148 L xs)) 72 (fun _ => 0), gp_ur (gp_L (cH148 L xs)) 72 (fun _ => 0#64), gp_ur (gp_R (cH148 L xs)) 72 (fun _ => none))
def cH150 (L : Nat) (xs : Nat → Int32) : gH := (73, 20889, gp_sh (cH149 L xs), gp_I (cH149 L xs), gp_L (cH149 L xs), gp_u2 (gp_R (cH149 L xs)) 66 1 (some 72))
def cH151 (L : Nat) (xs : Nat → Int32) : gH := (74, 20893, gp_u1 (gp_sh (cH150 L xs)) 73 (100, 4), gp_ur (gp_I (cH150 L xs)) 73 (fun _ => 0), gp_ur (gp_L (cH150 L xs)) 73 (fun _ => 0#64), gp_ur (gp_R (cH150 L xs)) 73 (fun _ => none))
def cH152 (L : Nat) (xs : Nat → Int32) : gH := (74, 20893, gp_sh (cH151 L xs), gp_I (cH151 L xs), gp_L (cH151 L xs), gp_u2 (gp_R (cH151 L xs)) 66 2 (some 73))
def cH153 (L : Nat) (xs : Nat → Int32) : gH := (74, 20893, gp_sh (cH152 L xs), gp_I (cH152 L xs), gp_L (cH152 L xs), gp_u2 (gp_R (cH152 L xs)) 1 16 (some 66))
def cH154 (L : Nat) (xs : Nat → Int32) : gH := (74, 20893, gp_sh (cH153 L xs), gp_I (cH153 L xs), gp_L (cH153 L xs), gp_u2 (gp_R (cH153 L xs)) 4 0 (some 25))
def cH155 (L : Nat) (xs : Nat → Int32) : gH := (74, 20893, gp_sh (cH154 L xs), gp_I (cH154 L xs), gp_L (cH154 L xs), gp_u2 (gp_R (cH154 L xs)) 5 0 (some 25))
def cH156 (L : Nat) (xs : Nat → Int32) : gH := (74, 20893, gp_sh (cH155 L xs), gp_I (cH155 L xs), gp_L (cH155 L xs), gp_u2 (gp_R (cH155 L xs)) 4 1 (some 25))
def cH157 (L : Nat) (xs : Nat → Int32) : gH := (74, 20893, gp_sh (cH156 L xs), gp_I (cH156 L xs), gp_L (cH156 L xs), gp_u2 (gp_R (cH156 L xs)) 5 1 (some 25))
def cH158 (L : Nat) (xs : Nat → Int32) : gH := (74, 20893, gp_sh (cH157 L xs), gp_I (cH157 L xs), gp_L (cH157 L xs), gp_u2 (gp_R (cH157 L xs)) 4 2 (some 25))
def cH159 (L : Nat) (xs : Nat → Int32) : gH := (74, 20893, gp_sh (cH158 L xs), gp_I (cH158 L xs), gp_L (cH158 L xs), gp_u2 (gp_R (cH158 L xs)) 5 2 (some 25))
def cH160 (L : Nat) (xs : Nat → Int32) : gH := (74, 20893, gp_sh (cH159 L xs), gp_I (cH159 L xs), gp_L (cH159 L xs), gp_u2 (gp_R (cH159 L xs)) 4 3 (some 25))
def cH161 (L : Nat) (xs : Nat → Int32) : gH := (74, 20893, gp_sh (cH160 L xs), gp_I (cH160 L xs), gp_L (cH160 L xs), gp_u2 (gp_R (cH160 L xs)) 5 3 (some 25))
def cH162 (L : Nat) (xs : Nat → Int32) : gH := (74, 20893, gp_sh (cH161 L xs), gp_I (cH161 L xs), gp_L (cH161 L xs), gp_u2 (gp_R (cH161 L xs)) 4 4 (some 25))
def cH163 (L : Nat) (xs : Nat → Int32) : gH := (74, 20893, gp_sh (cH162 L xs), gp_I (cH162 L xs), gp_L (cH162 L xs), gp_u2 (gp_R (cH162 L xs)) 5 4 (some 25))
def cH164 (L : Nat) (xs : Nat → Int32) : gH := (74, 20893, gp_sh (cH163 L xs), gp_I (cH163 L xs), gp_L (cH163 L xs), gp_u2 (gp_R (cH163 L xs)) 4 5 (some 25))
def cH165 (L : Nat) (xs : Nat → Int32) : gH := (74, 20893, gp_sh (cH164 L xs), gp_I (cH164 L xs), gp_L (cH164 L xs), gp_u2 (gp_R (cH164 L xs)) 5 5 (some 25))
def cH166 (L : Nat) (xs : Nat → Int32) : gH := (74, 20893, gp_sh (cH165 L xs), gp_I (cH165 L xs), gp_L (cH165 L xs), gp_u2 (gp_R (cH165 L xs)) 4 6 (some 25))
def cH167 (L : Nat) (xs : Nat → Int32) : gH := (74, 20893, gp_sh (cH166 L xs), gp_I (cH166 L xs), gp_L (cH166 L xs), gp_u2 (gp_R (cH166 L xs)) 5 6 (some 25))
def cH168 (L : Nat) (xs : Nat → Int32) : gH := (74, 20893, gp_sh (cH167 L xs), gp_I (cH167 L xs), gp_L (cH167 L xs), gp_u2 (gp_R (cH167 L xs)) 4 7 (some 25))
def cH169 (L : Nat) (xs : Nat → Int32) : gH := (74, 20893, gp_sh (cH168 L xs), gp_I (cH168 L xs), gp_L (cH168 L xs), gp_u2 (gp_R (cH168 L xs)) 5 7 (some 25))
def cH170 (L : Nat) (xs : Nat → Int32) : gH := (75, 20956, gp_u1 (gp_sh (cH169 L xs)) 74 (12, 63), gp_ur (gp_I (cH169 L xs)) 74 (fun _ => 0), gp_ur (gp_L (cH169 L xs)) 74 (fun _ => 0#64), gp_ur (gp_R (cH169 L xs)) 74 (fun _ => none))
def cH171 (L : Nat) (xs : Nat → Int32) : gH := (76, 20963, gp_u1 (gp_sh (cH170 L xs)) 75 (100, 7), gp_ur (gp_I (cH170 L xs)) 75 (fun _ => 0), gp_ur (gp_L (cH170 L xs)) 75 (fun _ => 0#64), gp_ur (gp_R (cH170 L xs)) 75 (fun _ => none))
def cH172 (L : Nat) (xs : Nat → Int32) : gH := (76, 20963, gp_sh (cH171 L xs), gp_I (cH171 L xs), gp_L (cH171 L xs), gp_u2 (gp_R (cH171 L xs)) 74 0 (some 75))
def cH173 (L : Nat) (xs : Nat → Int32) : gH := (77, 26403, gp_u1 (gp_sh (cH172 L xs)) 76 (101, 5440), gp_ur (gp_I (cH172 L xs)) 76 (fun _ => 0), gp_ur (gp_L (cH172 L xs)) 76 (fun _ => 0#64), gp_ur (gp_R (cH172 L xs)) 76 (fun _ => none))
def cH174 (L : Nat) (xs : Nat → Int32) : gH := (77, 26403, gp_sh (cH173 L xs), gp_I (cH173 L xs), gp_L (cH173 L xs), gp_u2 (gp_R (cH173 L xs)) 74 1 (some 76))
def cH175 (L : Nat) (xs : Nat → Int32) : gH := (78, 31843, gp_u1 (gp_sh (cH174 L xs)) 77 (101, 5440), gp_ur (gp_I (cH174 L xs)) 77 (fun _ => 0), gp_ur (gp_L (cH174 L xs)) 77 (fun _ => 0#64), gp_ur (gp_R (cH174 L xs)) 77 (fun _ => none))
def cH176 (L : Nat) (xs : Nat → Int32) : gH := (78, 31843, gp_sh (cH175 L xs), gp_I (cH175 L xs), gp_L (cH175 L xs), gp_u2 (gp_R (cH175 L xs)) 74 2 (some 77))
def cH177 (L : Nat) (xs : Nat → Int32) : gH := (79, 37283, gp_u1 (gp_sh (cH176 L xs)) 78 (100, 5440), gp_ur (gp_I (cH176 L xs)) 78 (fun _ => 0), gp_ur (gp_L (cH176 L xs)) 78 (fun _ => 0#64), gp_ur (gp_R (cH176 L xs)) 78 (fun _ => none))
def cH178 (L : Nat) (xs : Nat → Int32) : gH := (79, 37283, gp_sh (cH177 L xs), gp_I (cH177 L xs), gp_L (cH177 L xs), gp_u2 (gp_R (cH177 L xs)) 74 3 (some 78))
def cH179 (L : Nat) (xs : Nat → Int32) : gH := (80, 42723, gp_u1 (gp_sh (cH178 L xs)) 79 (100, 5440), gp_ur (gp_I (cH178 L xs)) 79 (fun _ => 0), gp_ur (gp_L (cH178 L xs)) 79 (fun _ => 0#64), gp_ur (gp_R (cH178 L xs)) 79 (fun _ => none))
def cH180 (L : Nat) (xs : Nat → Int32) : gH := (80, 42723, gp_sh (cH179 L xs), gp_I (cH179 L xs), gp_L (cH179 L xs), gp_u2 (gp_R (cH179 L xs)) 74 4 (some 79))
def cH181 (L : Nat) (xs : Nat → Int32) : gH := (81, 48163, gp_u1 (gp_sh (cH180 L xs)) 80 (100, 5440), gp_ur (gp_I (cH180 L xs)) 80 (fun _ => 0), gp_ur (gp_L (cH180 L xs)) 80 (fun _ => 0#64), gp_ur (gp_R (cH180 L xs)) 80 (fun _ => none))
def cH182 (L : Nat) (xs : Nat → Int32) : gH := (81, 48163, gp_sh (cH181 L xs), gp_I (cH181 L xs), gp_L (cH181 L xs), gp_u2 (gp_R (cH181 L xs)) 74 5 (some 80))
def cH183 (L : Nat) (xs : Nat → Int32) : gH := (82, 48248, gp_u1 (gp_sh (cH182 L xs)) 81 (100, 85), gp_ur (gp_I (cH182 L xs)) 81 (fun _ => 0), gp_ur (gp_L (cH182 L xs)) 81 (fun _ => 0#64), gp_ur (gp_R (cH182 L xs)) 81 (fun _ => none))
def cH184 (L : Nat) (xs : Nat → Int32) : gH := (82, 48248, gp_sh (cH183 L xs), gp_I (cH183 L xs), gp_L (cH183 L xs), gp_u2 (gp_R (cH183 L xs)) 74 6 (some 81))
def cH185 (L : Nat) (xs : Nat → Int32) : gH := (82, 48248, gp_sh (cH184 L xs), gp_u2 (gp_I (cH184 L xs)) 74 7 1, gp_L (cH184 L xs), gp_R (cH184 L xs))
def cH186 (L : Nat) (xs : Nat → Int32) : gH := (83, 48348, gp_u1 (gp_sh (cH185 L xs)) 82 (100, 100), gp_ur (gp_I (cH185 L xs)) 82 (fun _ => 0), gp_ur (gp_L (cH185 L xs)) 82 (fun _ => 0#64), gp_ur (gp_R (cH185 L xs)) 82 (fun _ => none))
def cH187 (L : Nat) (xs : Nat → Int32) : gH := (83, 48348, gp_sh (cH186 L xs), gp_I (cH186 L xs), gp_L (cH186 L xs), gp_u2 (gp_R (cH186 L xs)) 74 10 (some 82))
def cH188 (L : Nat) (xs : Nat → Int32) : gH := (84, 48428, gp_u1 (gp_sh (cH187 L xs)) 83 (100, 80), gp_ur (gp_I (cH187 L xs)) 83 (fun _ => 0), gp_ur (gp_L (cH187 L xs)) 83 (fun _ => 0#64), gp_ur (gp_R (cH187 L xs)) 83 (fun _ => none))
def cH189 (L : Nat) (xs : Nat → Int32) : gH := (84, 48428, gp_sh (cH188 L xs), gp_I (cH188 L xs), gp_L (cH188 L xs), gp_u2 (gp_R (cH188 L xs)) 74 12 (some 83))
def cH190 (L : Nat) (xs : Nat → Int32) : gH := (85, 48432, gp_u1 (gp_sh (cH189 L xs)) 84 (100, 4), gp_ur (gp_I (cH189 L xs)) 84 (fun _ => 0), gp_ur (gp_L (cH189 L xs)) 84 (fun _ => 0#64), gp_ur (gp_R (cH189 L xs)) 84 (fun _ => none))
def cH191 (L : Nat) (xs : Nat → Int32) : gH := (85, 48432, gp_sh (cH190 L xs), gp_I (cH190 L xs), gp_L (cH190 L xs), gp_u2 (gp_R (cH190 L xs)) 74 13 (some 84))
def cH192 (L : Nat) (xs : Nat → Int32) : gH := (86, 48436, gp_u1 (gp_sh (cH191 L xs)) 85 (100, 4), gp_ur (gp_I (cH191 L xs)) 85 (fun _ => 0), gp_ur (gp_L (cH191 L xs)) 85 (fun _ => 0#64), gp_ur (gp_R (cH191 L xs)) 85 (fun _ => none))
def cH193 (L : Nat) (xs : Nat → Int32) : gH := (86, 48436, gp_sh (cH192 L xs), gp_I (cH192 L xs), gp_L (cH192 L xs), gp_u2 (gp_R (cH192 L xs)) 74 14 (some 85))
def cH194 (L : Nat) (xs : Nat → Int32) : gH := (87, 52532, gp_u1 (gp_sh (cH193 L xs)) 86 (100, 4096), gp_ur (gp_I (cH193 L xs)) 86 (fun _ => 0), gp_ur (gp_L (cH193 L xs)) 86 (fun _ => 0#64), gp_ur (gp_R (cH193 L xs)) 86 (fun _ => none))
def cH195 (L : Nat) (xs : Nat → Int32) : gH := (87, 52532, gp_sh (cH194 L xs), gp_I (cH194 L xs), gp_L (cH194 L xs), gp_u2 (gp_R (cH194 L xs)) 74 16 (some 86))
def cH196 (L : Nat) (xs : Nat → Int32) : gH := (88, 52596, gp_u1 (gp_sh (cH195 L xs)) 87 (100, 64), gp_ur (gp_I (cH195 L xs)) 87 (fun _ => 0), gp_ur (gp_L (cH195 L xs)) 87 (fun _ => 0#64), gp_ur (gp_R (cH195 L xs)) 87 (fun _ => none))
def cH197 (L : Nat) (xs : Nat → Int32) : gH := (88, 52596, gp_sh (cH196 L xs), gp_I (cH196 L xs), gp_L (cH196 L xs), gp_u2 (gp_R (cH196 L xs)) 74 17 (some 87))
def cH198 (L : Nat) (xs : Nat → Int32) : gH := (89, 52660, gp_u1 (gp_sh (cH197 L xs)) 88 (100, 64), gp_ur (gp_I (cH197 L xs)) 88 (fun _ => 0), gp_ur (gp_L (cH197 L xs)) 88 (fun _ => 0#64), gp_ur (gp_R (cH197 L xs)) 88 (fun _ => none))
def cH199 (L : Nat) (xs : Nat → Int32) : gH := (89, 52660, gp_sh (cH198 L xs), gp_I (cH198 L xs), gp_L (cH198 L xs), gp_u2 (gp_R (cH198 L xs)) 74 18 (some 88))
def cH200 (L : Nat) (xs : Nat → Int32) : gH := (90, 52724, gp_u1 (gp_sh (cH199 L xs)) 89 (100, 64), gp_ur (gp_I (cH199 L xs)) 89 (fun _ => 0), gp_ur (gp_L (cH199 L xs)) 89 (fun _ => 0#64), gp_ur (gp_R (cH199 L xs)) 89 (fun _ => none))
def cH201 (L : Nat) (xs : Nat → Int32) : gH := (90, 52724, gp_sh (cH200 L xs), gp_I (cH200 L xs), gp_L (cH200 L xs), gp_u2 (gp_R (cH200 L xs)) 74 19 (some 89))
def cH202 (L : Nat) (xs : Nat → Int32) : gH := (91, 52788, gp_u1 (gp_sh (cH201 L xs)) 90 (100, 64), gp_ur (gp_I (cH201 L xs)) 90 (fun _ => 0), gp_ur (gp_L (cH201 L xs)) 90 (fun _ => 0#64), gp_ur (gp_R (cH201 L xs)) 90 (fun _ => none))
def cH203 (L : Nat) (xs : Nat → Int32) : gH := (91, 52788, gp_sh (cH202 L xs), gp_I (cH202 L xs), gp_L (cH202 L xs), gp_u2 (gp_R (cH202 L xs)) 74 20 (some 90))
def cH204 (L : Nat) (xs : Nat → Int32) : gH := (92, 52852, gp_u1 (gp_sh (cH203 L xs)) 91 (100, 64), gp_ur (gp_I (cH203 L xs)) 91 (fun _ => 0), gp_ur (gp_L (cH203 L xs)) 91 (fun _ => 0#64), gp_ur (gp_R (cH203 L xs)) 91 (fun _ => none))
def cH205 (L : Nat) (xs : Nat → Int32) : gH := (92, 52852, gp_sh (cH204 L xs), gp_I (cH204 L xs), gp_L (cH204 L xs), gp_u2 (gp_R (cH204 L xs)) 74 21 (some 91))
def cH206 (L : Nat) (xs : Nat → Int32) : gH := (93, 52916, gp_u1 (gp_sh (cH205 L xs)) 92 (100, 64), gp_ur (gp_I (cH205 L xs)) 92 (fun _ => 0), gp_ur (gp_L (cH205 L xs)) 92 (fun _ => 0#64), gp_ur (gp_R (cH205 L xs)) 92 (fun _ => none))
def cH207 (L : Nat) (xs : Nat → Int32) : gH := (93, 52916, gp_sh (cH206 L xs), gp_I (cH206 L xs), gp_L (cH206 L xs), gp_u2 (gp_R (cH206 L xs)) 74 22 (some 92))
def cH208 (L : Nat) (xs : Nat → Int32) : gH := (94, 52980, gp_u1 (gp_sh (cH207 L xs)) 93 (100, 64), gp_ur (gp_I (cH207 L xs)) 93 (fun _ => 0), gp_ur (gp_L (cH207 L xs)) 93 (fun _ => 0#64), gp_ur (gp_R (cH207 L xs)) 93 (fun _ => none))
def cH209 (L : Nat) (xs : Nat → Int32) : gH := (94, 52980, gp_sh (cH208 L xs), gp_I (cH208 L xs), gp_L (cH208 L xs), gp_u2 (gp_R (cH208 L xs)) 74 23 (some 93))
def cH210 (L : Nat) (xs : Nat → Int32) : gH := (95, 57076, gp_u1 (gp_sh (cH209 L xs)) 94 (100, 4096), gp_ur (gp_I (cH209 L xs)) 94 (fun _ => 0), gp_ur (gp_L (cH209 L xs)) 94 (fun _ => 0#64), gp_ur (gp_R (cH209 L xs)) 94 (fun _ => none))
def cH211 (L : Nat) (xs : Nat → Int32) : gH := (95, 57076, gp_sh (cH210 L xs), gp_I (cH210 L xs), gp_L (cH210 L xs), gp_u2 (gp_R (cH210 L xs)) 74 24 (some 94))
def cH212 (L : Nat) (xs : Nat → Int32) : gH := (96, 61172, gp_u1 (gp_sh (cH211 L xs)) 95 (100, 4096), gp_ur (gp_I (cH211 L xs)) 95 (fun _ => 0), gp_ur (gp_L (cH211 L xs)) 95 (fun _ => 0#64), gp_ur (gp_R (cH211 L xs)) 95 (fun _ => none))
def cH213 (L : Nat) (xs : Nat → Int32) : gH := (96, 61172, gp_sh (cH212 L xs), gp_I (cH212 L xs), gp_L (cH212 L xs), gp_u2 (gp_R (cH212 L xs)) 74 25 (some 95))
def cH214 (L : Nat) (xs : Nat → Int32) : gH := (97, 65268, gp_u1 (gp_sh (cH213 L xs)) 96 (100, 4096), gp_ur (gp_I (cH213 L xs)) 96 (fun _ => 0), gp_ur (gp_L (cH213 L xs)) 96 (fun _ => 0#64), gp_ur (gp_R (cH213 L xs)) 96 (fun _ => none))
def cH215 (L : Nat) (xs : Nat → Int32) : gH := (97, 65268, gp_sh (cH214 L xs), gp_I (cH214 L xs), gp_L (cH214 L xs), gp_u2 (gp_R (cH214 L xs)) 74 26 (some 96))
def cH216 (L : Nat) (xs : Nat → Int32) : gH := (98, 69364, gp_u1 (gp_sh (cH215 L xs)) 97 (100, 4096), gp_ur (gp_I (cH215 L xs)) 97 (fun _ => 0), gp_ur (gp_L (cH215 L xs)) 97 (fun _ => 0#64), gp_ur (gp_R (cH215 L xs)) 97 (fun _ => none))
def cH217 (L : Nat) (xs : Nat → Int32) : gH := (98, 69364, gp_sh (cH216 L xs), gp_I (cH216 L xs), gp_L (cH216 L xs), gp_u2 (gp_R (cH216 L xs)) 74 27 (some 97))
def cH218 (L : Nat) (xs : Nat → Int32) : gH := (99, 73460, gp_u1 (gp_sh (cH217 L xs)) 98 (100, 4096), gp_ur (gp_I (cH217 L xs)) 98 (fun _ => 0), gp_ur (gp_L (cH217 L xs)) 98 (fun _ => 0#64), gp_ur (gp_R (cH217 L xs)) 98 (fun _ => none))
def cH219 (L : Nat) (xs : Nat → Int32) : gH := (99, 73460, gp_sh (cH218 L xs), gp_I (cH218 L xs), gp_L (cH218 L xs), gp_u2 (gp_R (cH218 L xs)) 74 28 (some 98))
def cH220 (L : Nat) (xs : Nat → Int32) : gH := (100, 77556, gp_u1 (gp_sh (cH219 L xs)) 99 (100, 4096), gp_ur (gp_I (cH219 L xs)) 99 (fun _ => 0), gp_ur (gp_L (cH219 L xs)) 99 (fun _ => 0#64), gp_ur (gp_R (cH219 L xs)) 99 (fun _ => none))
def cH221 (L : Nat) (xs : Nat → Int32) : gH := (100, 77556, gp_sh (cH220 L xs), gp_I (cH220 L xs), gp_L (cH220 L xs), gp_u2 (gp_R (cH220 L xs)) 74 29 (some 99))
def cH222 (L : Nat) (xs : Nat → Int32) : gH := (101, 77620, gp_u1 (gp_sh (cH221 L xs)) 100 (100, 64), gp_ur (gp_I (cH221 L xs)) 100 (fun _ => 0), gp_ur (gp_L (cH221 L xs)) 100 (fun _ => 0#64), gp_ur (gp_R (cH221 L xs)) 100 (fun _ => none))
def cH223 (L : Nat) (xs : Nat → Int32) : gH := (101, 77620, gp_sh (cH222 L xs), gp_I (cH222 L xs), gp_L (cH222 L xs), gp_u2 (gp_R (cH222 L xs)) 74 30 (some 100))
def cH224 (L : Nat) (xs : Nat → Int32) : gH := (102, 77684, gp_u1 (gp_sh (cH223 L xs)) 101 (100, 64), gp_ur (gp_I (cH223 L xs)) 101 (fun _ => 0), gp_ur (gp_L (cH223 L xs)) 101 (fun _ => 0#64), gp_ur (gp_R (cH223 L xs)) 101 (fun _ => none))
def cH225 (L : Nat) (xs : Nat → Int32) : gH := (102, 77684, gp_sh (cH224 L xs), gp_I (cH224 L xs), gp_L (cH224 L xs), gp_u2 (gp_R (cH224 L xs)) 74 31 (some 101))
def cH226 (L : Nat) (xs : Nat → Int32) : gH := (103, 77748, gp_u1 (gp_sh (cH225 L xs)) 102 (100, 64), gp_ur (gp_I (cH225 L xs)) 102 (fun _ => 0), gp_ur (gp_L (cH225 L xs)) 102 (fun _ => 0#64), gp_ur (gp_R (cH225 L xs)) 102 (fun _ => none))
def cH227 (L : Nat) (xs : Nat → Int32) : gH := (103, 77748, gp_sh (cH226 L xs), gp_I (cH226 L xs), gp_L (cH226 L xs), gp_u2 (gp_R (cH226 L xs)) 74 32 (some 102))
def cH228 (L : Nat) (xs : Nat → Int32) : gH := (104, 77812, gp_u1 (gp_sh (cH227 L xs)) 103 (100, 64), gp_ur (gp_I (cH227 L xs)) 103 (fun _ => 0), gp_ur (gp_L (cH227 L xs)) 103 (fun _ => 0#64), gp_ur (gp_R (cH227 L xs)) 103 (fun _ => none))
def cH229 (L : Nat) (xs : Nat → Int32) : gH := (104, 77812, gp_sh (cH228 L xs), gp_I (cH228 L xs), gp_L (cH228 L xs), gp_u2 (gp_R (cH228 L xs)) 74 33 (some 103))
def cH230 (L : Nat) (xs : Nat → Int32) : gH := (105, 77876, gp_u1 (gp_sh (cH229 L xs)) 104 (100, 64), gp_ur (gp_I (cH229 L xs)) 104 (fun _ => 0), gp_ur (gp_L (cH229 L xs)) 104 (fun _ => 0#64), gp_ur (gp_R (cH229 L xs)) 104 (fun _ => none))
def cH231 (L : Nat) (xs : Nat → Int32) : gH := (105, 77876, gp_sh (cH230 L xs), gp_I (cH230 L xs), gp_L (cH230 L xs), gp_u2 (gp_R (cH230 L xs)) 74 34 (some 104))
def cH232 (L : Nat) (xs : Nat → Int32) : gH := (106, 81972, gp_u1 (gp_sh (cH231 L xs)) 105 (100, 4096), gp_ur (gp_I (cH231 L xs)) 105 (fun _ => 0), gp_ur (gp_L (cH231 L xs)) 105 (fun _ => 0#64), gp_ur (gp_R (cH231 L xs)) 105 (fun _ => none))
def cH233 (L : Nat) (xs : Nat → Int32) : gH := (106, 81972, gp_sh (cH232 L xs), gp_I (cH232 L xs), gp_L (cH232 L xs), gp_u2 (gp_R (cH232 L xs)) 74 37 (some 105))
def cH234 (L : Nat) (xs : Nat → Int32) : gH := (107, 81975, gp_u1 (gp_sh (cH233 L xs)) 106 (100, 3), gp_ur (gp_I (cH233 L xs)) 106 (fun _ => 0), gp_ur (gp_L (cH233 L xs)) 106 (fun _ => 0#64), gp_ur (gp_R (cH233 L xs)) 106 (fun _ => none))
def cH235 (L : Nat) (xs : Nat → Int32) : gH := (107, 81975, gp_sh (cH234 L xs), gp_I (cH234 L xs), gp_L (cH234 L xs), gp_u2 (gp_R (cH234 L xs)) 74 47 (some 106))
def cH236 (L : Nat) (xs : Nat → Int32) : gH := (108, 81978, gp_u1 (gp_sh (cH235 L xs)) 107 (100, 3), gp_ur (gp_I (cH235 L xs)) 107 (fun _ => 0), gp_ur (gp_L (cH235 L xs)) 107 (fun _ => 0#64), gp_ur (gp_R (cH235 L xs)) 107 (fun _ => none))
def cH237 (L : Nat) (xs : Nat → Int32) : gH := (108, 81978, gp_sh (cH236 L xs), gp_I (cH236 L xs), gp_L (cH236 L xs), gp_u2 (gp_R (cH236 L xs)) 74 48 (some 107))
def cH238 (L : Nat) (xs : Nat → Int32) : gH := (109, 344122, gp_u1 (gp_sh (cH237 L xs)) 108 (100, 262144), gp_ur (gp_I (cH237 L xs)) 108 (fun _ => 0), gp_ur (gp_L (cH237 L xs)) 108 (fun _ => 0#64), gp_ur (gp_R (cH237 L xs)) 108 (fun _ => none))
def cH239 (L : Nat) (xs : Nat → Int32) : gH := (109, 344122, gp_sh (cH238 L xs), gp_I (cH238 L xs), gp_L (cH238 L xs), gp_u2 (gp_R (cH238 L xs)) 74 50 (some 108))
def cH240 (L : Nat) (xs : Nat → Int32) : gH := (110, 606266, gp_u1 (gp_sh (cH239 L xs)) 109 (100, 262144), gp_ur (gp_I (cH239 L xs)) 109 (fun _ => 0), gp_ur (gp_L (cH239 L xs)) 109 (fun _ => 0#64), gp_ur (gp_R (cH239 L xs)) 109 (fun _ => none))
def cH241 (L : Nat) (xs : Nat → Int32) : gH := (110, 606266, gp_sh (cH240 L xs), gp_I (cH240 L xs), gp_L (cH240 L xs), gp_u2 (gp_R (cH240 L xs)) 74 51 (some 109))
def cH242 (L : Nat) (xs : Nat → Int32) : gH := (111, 606269, gp_u1 (gp_sh (cH241 L xs)) 110 (100, 3), gp_ur (gp_I (cH241 L xs)) 110 (fun _ => 0), gp_ur (gp_L (cH241 L xs)) 110 (fun _ => 0#64), gp_ur (gp_R (cH241 L xs)) 110 (fun _ => none))
def cH243 (L : Nat) (xs : Nat → Int32) : gH := (111, 606269, gp_sh (cH242 L xs), gp_I (cH242 L xs), gp_L (cH242 L xs), gp_u2 (gp_R (cH242 L xs)) 74 52 (some 110))
def cH244 (L : Nat) (xs : Nat → Int32) : gH := (112, 606272, gp_u1 (gp_sh (cH243 L xs)) 111 (100, 3), gp_ur (gp_I (cH243 L xs)) 111 (fun _ => 0), gp_ur (gp_L (cH243 L xs)) 111 (fun _ => 0#64), gp_ur (gp_R (cH243 L xs)) 111 (fun _ => none))
def cH245 (L : Nat) (xs : Nat → Int32) : gH := (112, 606272, gp_sh (cH244 L xs), gp_I (cH244 L xs), gp_L (cH244 L xs), gp_u2 (gp_R (cH244 L xs)) 74 53 (some 111))
def cH246 (L : Nat) (xs : Nat → Int32) : gH := (113, 606275, gp_u1 (gp_sh (cH245 L xs)) 112 (100, 3), gp_ur (gp_I (cH245 L xs)) 112 (fun _ => 0), gp_ur (gp_L (cH245 L xs)) 112 (fun _ => 0#64), gp_ur (gp_R (cH245 L xs)) 112 (fun _ => none))
def cH247 (L : Nat) (xs : Nat → Int32) : gH := (113, 606275, gp_sh (cH246 L xs), gp_I (cH246 L xs), gp_L (cH246 L xs), gp_u2 (gp_R (cH246 L xs)) 74 54 (some 112))
def cH248 (L : Nat) (xs : Nat → Int32) : gH := (114, 606475, gp_u1 (gp_sh (cH247 L xs)) 113 (100, 200), gp_ur (gp_I (cH247 L xs)) 113 (fun _ => 0), gp_ur (gp_L (cH247 L xs)) 113 (fun _ => 0#64), gp_ur (gp_R (cH247 L xs)) 113 (fun _ => none))
def cH249 (L : Nat) (xs : Nat → Int32) : gH := (114, 606475, gp_sh (cH248 L xs), gp_I (cH248 L xs), gp_L (cH248 L xs), gp_u2 (gp_R (cH248 L xs)) 74 59 (some 113))
def cH250 (L : Nat) (xs : Nat → Int32) : gH := (115, 606675, gp_u1 (gp_sh (cH249 L xs)) 114 (100, 200), gp_ur (gp_I (cH249 L xs)) 114 (fun _ => 0), gp_ur (gp_L (cH249 L xs)) 114 (fun _ => 0#64), gp_ur (gp_R (cH249 L xs)) 114 (fun _ => none))
def cH251 (L : Nat) (xs : Nat → Int32) : gH := (115, 606675, gp_sh (cH250 L xs), gp_I (cH250 L xs), gp_L (cH250 L xs), gp_u2 (gp_R (cH250 L xs)) 74 60 (some 114))
def cH252 (L : Nat) (xs : Nat → Int32) : gH := (116, 606875, gp_u1 (gp_sh (cH251 L xs)) 115 (100, 200), gp_ur (gp_I (cH251 L xs)) 115 (fun _ => 0), gp_ur (gp_L (cH251 L xs)) 115 (fun _ => 0#64), gp_ur (gp_R (cH251 L xs)) 115 (fun _ => none))
def cH253 (L : Nat) (xs : Nat → Int32) : gH := (116, 606875, gp_sh (cH252 L xs), gp_I (cH252 L xs), gp_L (cH252 L xs), gp_u2 (gp_R (cH252 L xs)) 74 61 (some 115))
def cH254 (L : Nat) (xs : Nat → Int32) : gH := (117, 606895, gp_u1 (gp_sh (cH253 L xs)) 116 (100, 20), gp_ur (gp_I (cH253 L xs)) 116 (fun _ => 0), gp_ur (gp_L (cH253 L xs)) 116 (fun _ => 0#64), gp_ur (gp_R (cH253 L xs)) 116 (fun _ => none))
def cH255 (L : Nat) (xs : Nat → Int32) : gH := (117, 606895, gp_sh (cH254 L xs), gp_I (cH254 L xs), gp_L (cH254 L xs), gp_u2 (gp_R (cH254 L xs)) 74 62 (some 116))
def cH256 (L : Nat) (xs : Nat → Int32) : gH := (117, 606895, gp_sh (cH255 L xs), gp_u2 (gp_I (cH255 L xs)) 81 0 1, gp_L (cH255 L xs), gp_R (cH255 L xs))
def cH257 (L : Nat) (xs : Nat → Int32) : gH := (117, 606895, gp_sh (cH256 L xs), gp_u2 (gp_I (cH256 L xs)) 81 1 1, gp_L (cH256 L xs), gp_R (cH256 L xs))
def cH258 (L : Nat) (xs : Nat → Int32) : gH := (117, 606895, gp_sh (cH257 L xs), gp_u2 (gp_I (cH257 L xs)) 81 2 1, gp_L (cH257 L xs), gp_R (cH257 L xs))
def cH259 (L : Nat) (xs : Nat → Int32) : gH := (117, 606895, gp_sh (cH258 L xs), gp_u2 (gp_I (cH258 L xs)) 81 3 1, gp_L (cH258 L xs), gp_R (cH258 L xs))
def cH260 (L : Nat) (xs : Nat → Int32) : gH := (117, 606895, gp_sh (cH259 L xs), gp_u2 (gp_I (cH259 L xs)) 81 4 1, gp_L (cH259 L xs), gp_R (cH259 L xs))
def cH261 (L : Nat) (xs : Nat → Int32) : gH := (117, 606895, gp_sh (cH260 L xs), gp_u2 (gp_I (cH260 L xs)) 81 5 1, gp_L (cH260 L xs), gp_R (cH260 L xs))
def cH262 (L : Nat) (xs : Nat → Int32) : gH := (117, 606895, gp_sh (cH261 L xs), gp_u2 (gp_I (cH261 L xs)) 81 6 1, gp_L (cH261 L xs), gp_R (cH261 L xs))
def cH263 (L : Nat) (xs : Nat → Int32) : gH := (117, 606895, gp_sh (cH262 L xs), gp_u2 (gp_I (cH262 L xs)) 81 7 1, gp_L (cH262 L xs), gp_R (cH262 L xs))
set_option maxRecDepth 1000000 in
/-- GatheredPoints$Table.<init> -/
theorem ct0 {d : Nat} (L : Nat) (xs : Nat → Int32) : gp_E d 2304 0 [gp_r (some 7), gp_i 61] [] (cH11 L xs) (fun r h => r = none ∧ h = cH22 L xs) := by
  refine gp_E.stp 5 (pc' := 9) (ls' := [gp_r (some 7), gp_i 61]) (st' := []) (h' := cH12 L xs) rfl ?_
  refine gp_E.stp 3 (pc' := 13) (ls' := [gp_r (some 7), gp_i 61]) (st' := [gp_r (some 8), gp_r (some 7)]) (h' := cH13 L xs) rfl ?_
  refine gp_E.stp 1 (pc' := 16) (ls' := [gp_r (some 7), gp_i 61]) (st' := []) (h' := cH14 L xs) rfl ?_
  refine gp_E.stp 3 (pc' := 20) (ls' := [gp_r (some 7), gp_i 61]) (st' := [gp_r (some 9), gp_r (some 7)]) (h' := cH15 L xs) rfl ?_
  refine gp_E.stp 1 (pc' := 23) (ls' := [gp_r (some 7), gp_i 61]) (st' := []) (h' := cH16 L xs) rfl ?_
  refine gp_E.stp 3 (pc' := 27) (ls' := [gp_r (some 7), gp_i 61]) (st' := [gp_r (some 10), gp_r (some 7)]) (h' := cH17 L xs) rfl ?_
  refine gp_E.stp 1 (pc' := 30) (ls' := [gp_r (some 7), gp_i 61]) (st' := []) (h' := cH18 L xs) rfl ?_
  refine gp_E.stp 3 (pc' := 34) (ls' := [gp_r (some 7), gp_i 61]) (st' := [gp_r (some 11), gp_r (some 7)]) (h' := cH19 L xs) rfl ?_
  refine gp_E.stp 1 (pc' := 37) (ls' := [gp_r (some 7), gp_i 61]) (st' := []) (h' := cH20 L xs) rfl ?_
  refine gp_E.stp 3 (pc' := 41) (ls' := [gp_r (some 7), gp_i 61]) (st' := [gp_r (some 12), gp_r (some 7)]) (h' := cH21 L xs) rfl ?_
  refine gp_E.stp 1 (pc' := 44) (ls' := [gp_r (some 7), gp_i 61]) (st' := []) (h' := cH22 L xs) rfl ?_
  exact gp_E.ret (r := none) rfl ⟨rfl, rfl⟩
set_option maxRecDepth 1000000 in
/-- GatheredPoints$Table.makeBounds -/
theorem ct1 {d : Nat} (L : Nat) (xs : Nat → Int32) : gp_E d 2305 0 [gp_r (some 7)] [] (cH29 L xs) (fun r h => r = none ∧ h = cH37 L xs) := by
  refine gp_E.stp 4 (pc' := 7) (ls' := [gp_r (some 7)]) (st' := [gp_r (some 16), gp_r (some 7)]) (h' := cH30 L xs) rfl ?_
  refine gp_E.stp 1 (pc' := 10) (ls' := [gp_r (some 7)]) (st' := []) (h' := cH31 L xs) rfl ?_
  refine gp_E.stp 4 (pc' := 17) (ls' := [gp_r (some 7)]) (st' := [gp_r (some 17), gp_r (some 7)]) (h' := cH32 L xs) rfl ?_
  refine gp_E.stp 1 (pc' := 20) (ls' := [gp_r (some 7)]) (st' := []) (h' := cH33 L xs) rfl ?_
  refine gp_E.stp 4 (pc' := 27) (ls' := [gp_r (some 7)]) (st' := [gp_r (some 18), gp_r (some 7)]) (h' := cH34 L xs) rfl ?_
  refine gp_E.stp 1 (pc' := 30) (ls' := [gp_r (some 7)]) (st' := []) (h' := cH35 L xs) rfl ?_
  refine gp_E.stp 4 (pc' := 37) (ls' := [gp_r (some 7)]) (st' := [gp_r (some 19), gp_r (some 7)]) (h' := cH36 L xs) rfl ?_
  refine gp_E.stp 1 (pc' := 40) (ls' := [gp_r (some 7)]) (st' := []) (h' := cH37 L xs) rfl ?_
  exact gp_E.ret (r := none) rfl ⟨rfl, rfl⟩
set_option maxRecDepth 1000000 in
/-- GatheredPoints$Pool.<init> -/
theorem ct2 {d : Nat} (L : Nat) (xs : Nat → Int32) : gp_E (d + 1) 1024 0 [gp_r (some 6)] [] (cH10 L xs) (fun r h => r = none ∧ h = cH37 L xs) := by
  refine gp_E.stp 4 (pc' := 8) (ls' := [gp_r (some 6)]) (st' := [gp_r (some 7), gp_r (some 6)]) (h' := cH11 L xs) rfl ?_
  refine gp_E.stp 2 (pc' := 11) (ls' := [gp_r (some 6)]) (st' := [gp_i 61, gp_r (some 7), gp_r (some 7), gp_r (some 6)]) (h' := cH11 L xs) rfl ?_
  refine gp_E.call (y' := 2304) (l0 := [gp_r (some 7), gp_i 61]) (st' := [gp_r (some 7), gp_r (some 6)]) rfl (gp_E.mono (ct0 (d := d) L xs) (fun r h q => ?_))
  obtain ⟨rfl, rfl⟩ := q
  show gp_E _ 1024 14 [gp_r (some 6)] [gp_r (some 7), gp_r (some 6)] (cH22 L xs) _
  refine gp_E.stp 1 (pc' := 17) (ls' := [gp_r (some 6)]) (st' := []) (h' := cH23 L xs) rfl ?_
  refine gp_E.stp 3 (pc' := 22) (ls' := [gp_r (some 6)]) (st' := [gp_r (some 13), gp_r (some 6)]) (h' := cH24 L xs) rfl ?_
  refine gp_E.stp 1 (pc' := 25) (ls' := [gp_r (some 6)]) (st' := []) (h' := cH25 L xs) rfl ?_
  refine gp_E.stp 3 (pc' := 30) (ls' := [gp_r (some 6)]) (st' := [gp_r (some 14), gp_r (some 6)]) (h' := cH26 L xs) rfl ?_
  refine gp_E.stp 1 (pc' := 33) (ls' := [gp_r (some 6)]) (st' := []) (h' := cH27 L xs) rfl ?_
  refine gp_E.stp 3 (pc' := 38) (ls' := [gp_r (some 6)]) (st' := [gp_r (some 15), gp_r (some 6)]) (h' := cH28 L xs) rfl ?_
  refine gp_E.stp 1 (pc' := 41) (ls' := [gp_r (some 6)]) (st' := []) (h' := cH29 L xs) rfl ?_
  refine gp_E.stp 2 (pc' := 45) (ls' := [gp_r (some 6)]) (st' := [gp_r (some 7)]) (h' := cH29 L xs) rfl ?_
  refine gp_E.call (y' := 2305) (l0 := [gp_r (some 7)]) (st' := []) rfl (gp_E.mono (ct1 (d := d) L xs) (fun r h q => ?_))
  obtain ⟨rfl, rfl⟩ := q
  show gp_E _ 1024 48 [gp_r (some 6)] [] (cH37 L xs) _
  exact gp_E.ret (r := none) rfl ⟨rfl, rfl⟩
set_option maxRecDepth 1000000 in
/-- GatheredPoints$Table.<init> -/
theorem ct3 {d : Nat} (L : Nat) (xs : Nat → Int32) : gp_E d 2304 0 [gp_r (some 25), gp_i 1] [] (cH48 L xs) (fun r h => r = none ∧ h = cH59 L xs) := by
  refine gp_E.stp 5 (pc' := 9) (ls' := [gp_r (some 25), gp_i 1]) (st' := []) (h' := cH49 L xs) rfl ?_
  refine gp_E.stp 3 (pc' := 13) (ls' := [gp_r (some 25), gp_i 1]) (st' := [gp_r (some 26), gp_r (some 25)]) (h' := cH50 L xs) rfl ?_
  refine gp_E.stp 1 (pc' := 16) (ls' := [gp_r (some 25), gp_i 1]) (st' := []) (h' := cH51 L xs) rfl ?_
  refine gp_E.stp 3 (pc' := 20) (ls' := [gp_r (some 25), gp_i 1]) (st' := [gp_r (some 27), gp_r (some 25)]) (h' := cH52 L xs) rfl ?_
  refine gp_E.stp 1 (pc' := 23) (ls' := [gp_r (some 25), gp_i 1]) (st' := []) (h' := cH53 L xs) rfl ?_
  refine gp_E.stp 3 (pc' := 27) (ls' := [gp_r (some 25), gp_i 1]) (st' := [gp_r (some 28), gp_r (some 25)]) (h' := cH54 L xs) rfl ?_
  refine gp_E.stp 1 (pc' := 30) (ls' := [gp_r (some 25), gp_i 1]) (st' := []) (h' := cH55 L xs) rfl ?_
  refine gp_E.stp 3 (pc' := 34) (ls' := [gp_r (some 25), gp_i 1]) (st' := [gp_r (some 29), gp_r (some 25)]) (h' := cH56 L xs) rfl ?_
  refine gp_E.stp 1 (pc' := 37) (ls' := [gp_r (some 25), gp_i 1]) (st' := []) (h' := cH57 L xs) rfl ?_
  refine gp_E.stp 3 (pc' := 41) (ls' := [gp_r (some 25), gp_i 1]) (st' := [gp_r (some 30), gp_r (some 25)]) (h' := cH58 L xs) rfl ?_
  refine gp_E.stp 1 (pc' := 44) (ls' := [gp_r (some 25), gp_i 1]) (st' := []) (h' := cH59 L xs) rfl ?_
  exact gp_E.ret (r := none) rfl ⟨rfl, rfl⟩
set_option maxRecDepth 1000000 in
/-- GatheredPoints$Maker.<init> -/
theorem ct4 {d : Nat} (L : Nat) (xs : Nat → Int32) : gp_E (d + 1) 256 0 [gp_r (some 20), gp_r (some 6)] [] (cH39 L xs) (fun r h => r = none ∧ h = cH61 L xs) := by
  refine gp_E.stp 5 (pc' := 9) (ls' := [gp_r (some 20), gp_r (some 6)]) (st' := [gp_r (some 21), gp_r (some 20)]) (h' := cH40 L xs) rfl ?_
  refine gp_E.stp 1 (pc' := 12) (ls' := [gp_r (some 20), gp_r (some 6)]) (st' := []) (h' := cH41 L xs) rfl ?_
  refine gp_E.stp 3 (pc' := 18) (ls' := [gp_r (some 20), gp_r (some 6)]) (st' := [gp_r (some 22), gp_r (some 20)]) (h' := cH42 L xs) rfl ?_
  refine gp_E.stp 1 (pc' := 21) (ls' := [gp_r (some 20), gp_r (some 6)]) (st' := []) (h' := cH43 L xs) rfl ?_
  refine gp_E.stp 3 (pc' := 26) (ls' := [gp_r (some 20), gp_r (some 6)]) (st' := [gp_r (some 23), gp_r (some 20)]) (h' := cH44 L xs) rfl ?_
  refine gp_E.stp 1 (pc' := 29) (ls' := [gp_r (some 20), gp_r (some 6)]) (st' := []) (h' := cH45 L xs) rfl ?_
  refine gp_E.stp 3 (pc' := 34) (ls' := [gp_r (some 20), gp_r (some 6)]) (st' := [gp_r (some 24), gp_r (some 20)]) (h' := cH46 L xs) rfl ?_
  refine gp_E.stp 1 (pc' := 37) (ls' := [gp_r (some 20), gp_r (some 6)]) (st' := []) (h' := cH47 L xs) rfl ?_
  refine gp_E.stp 2 (pc' := 41) (ls' := [gp_r (some 20), gp_r (some 6)]) (st' := [gp_r (some 25), gp_r (some 20)]) (h' := cH48 L xs) rfl ?_
  refine gp_E.stp 2 (pc' := 43) (ls' := [gp_r (some 20), gp_r (some 6)]) (st' := [gp_i 1, gp_r (some 25), gp_r (some 25), gp_r (some 20)]) (h' := cH48 L xs) rfl ?_
  refine gp_E.call (y' := 2304) (l0 := [gp_r (some 25), gp_i 1]) (st' := [gp_r (some 25), gp_r (some 20)]) rfl (gp_E.mono (ct3 (d := d) L xs) (fun r h q => ?_))
  obtain ⟨rfl, rfl⟩ := q
  show gp_E _ 256 46 [gp_r (some 20), gp_r (some 6)] [gp_r (some 25), gp_r (some 20)] (cH59 L xs) _
  refine gp_E.stp 1 (pc' := 49) (ls' := [gp_r (some 20), gp_r (some 6)]) (st' := []) (h' := cH60 L xs) rfl ?_
  refine gp_E.stp 3 (pc' := 54) (ls' := [gp_r (some 20), gp_r (some 6)]) (st' := []) (h' := cH61 L xs) rfl ?_
  exact gp_E.ret (r := none) rfl ⟨rfl, rfl⟩
set_option maxRecDepth 1000000 in
/-- GatheredPoints$Measures.<init> -/
theorem ct5 {d : Nat} (L : Nat) (xs : Nat → Int32) : gp_E d 768 0 [gp_r (some 31)] [] (cH63 L xs) (fun r h => r = none ∧ h = cH75 L xs) := by
  refine gp_E.stp 5 (pc' := 10) (ls' := [gp_r (some 31)]) (st' := [gp_r (some 32), gp_r (some 31)]) (h' := cH64 L xs) rfl ?_
  refine gp_E.stp 1 (pc' := 13) (ls' := [gp_r (some 31)]) (st' := []) (h' := cH65 L xs) rfl ?_
  refine gp_E.stp 3 (pc' := 19) (ls' := [gp_r (some 31)]) (st' := [gp_r (some 33), gp_r (some 31)]) (h' := cH66 L xs) rfl ?_
  refine gp_E.stp 1 (pc' := 22) (ls' := [gp_r (some 31)]) (st' := []) (h' := cH67 L xs) rfl ?_
  refine gp_E.stp 3 (pc' := 28) (ls' := [gp_r (some 31)]) (st' := [gp_r (some 34), gp_r (some 31)]) (h' := cH68 L xs) rfl ?_
  refine gp_E.stp 1 (pc' := 31) (ls' := [gp_r (some 31)]) (st' := []) (h' := cH69 L xs) rfl ?_
  refine gp_E.stp 3 (pc' := 37) (ls' := [gp_r (some 31)]) (st' := [gp_r (some 35), gp_r (some 31)]) (h' := cH70 L xs) rfl ?_
  refine gp_E.stp 1 (pc' := 40) (ls' := [gp_r (some 31)]) (st' := []) (h' := cH71 L xs) rfl ?_
  refine gp_E.stp 3 (pc' := 45) (ls' := [gp_r (some 31)]) (st' := [gp_r (some 36), gp_r (some 31)]) (h' := cH72 L xs) rfl ?_
  refine gp_E.stp 1 (pc' := 48) (ls' := [gp_r (some 31)]) (st' := []) (h' := cH73 L xs) rfl ?_
  refine gp_E.stp 3 (pc' := 53) (ls' := [gp_r (some 31)]) (st' := [gp_r (some 37), gp_r (some 31)]) (h' := cH74 L xs) rfl ?_
  refine gp_E.stp 1 (pc' := 56) (ls' := [gp_r (some 31)]) (st' := []) (h' := cH75 L xs) rfl ?_
  exact gp_E.ret (r := none) rfl ⟨rfl, rfl⟩
set_option maxRecDepth 1000000 in
/-- GatheredPoints$Least.<init> -/
theorem ct6 {d : Nat} (L : Nat) (xs : Nat → Int32) : gp_E d 0 0 [gp_r (some 38)] [] (cH77 L xs) (fun r h => r = none ∧ h = cH81 L xs) := by
  refine gp_E.stp 5 (pc' := 9) (ls' := [gp_r (some 38)]) (st' := [gp_r (some 39), gp_r (some 38)]) (h' := cH78 L xs) rfl ?_
  refine gp_E.stp 1 (pc' := 12) (ls' := [gp_r (some 38)]) (st' := []) (h' := cH79 L xs) rfl ?_
  refine gp_E.stp 3 (pc' := 17) (ls' := [gp_r (some 38)]) (st' := [gp_r (some 40), gp_r (some 38)]) (h' := cH80 L xs) rfl ?_
  refine gp_E.stp 1 (pc' := 20) (ls' := [gp_r (some 38)]) (st' := []) (h' := cH81 L xs) rfl ?_
  exact gp_E.ret (r := none) rfl ⟨rfl, rfl⟩
set_option maxRecDepth 1000000 in
/-- GatheredPoints$Least.<init> -/
theorem ct7 {d : Nat} (L : Nat) (xs : Nat → Int32) : gp_E d 0 0 [gp_r (some 42)] [] (cH84 L xs) (fun r h => r = none ∧ h = cH88 L xs) := by
  refine gp_E.stp 5 (pc' := 9) (ls' := [gp_r (some 42)]) (st' := [gp_r (some 43), gp_r (some 42)]) (h' := cH85 L xs) rfl ?_
  refine gp_E.stp 1 (pc' := 12) (ls' := [gp_r (some 42)]) (st' := []) (h' := cH86 L xs) rfl ?_
  refine gp_E.stp 3 (pc' := 17) (ls' := [gp_r (some 42)]) (st' := [gp_r (some 44), gp_r (some 42)]) (h' := cH87 L xs) rfl ?_
  refine gp_E.stp 1 (pc' := 20) (ls' := [gp_r (some 42)]) (st' := []) (h' := cH88 L xs) rfl ?_
  exact gp_E.ret (r := none) rfl ⟨rfl, rfl⟩
set_option maxRecDepth 1000000 in
/-- GatheredPoints$Reducer.<init> -/
theorem ct8 {d : Nat} (L : Nat) (xs : Nat → Int32) : gp_E (d + 1) 1536 0 [gp_r (some 41), gp_r (some 6), gp_r (some 31)] [] (cH83 L xs) (fun r h => r = none ∧ h = cH93 L xs) := by
  refine gp_E.stp 4 (pc' := 8) (ls' := [gp_r (some 41), gp_r (some 6), gp_r (some 31)]) (st' := [gp_r (some 42), gp_r (some 41)]) (h' := cH84 L xs) rfl ?_
  refine gp_E.stp 1 (pc' := 9) (ls' := [gp_r (some 41), gp_r (some 6), gp_r (some 31)]) (st' := [gp_r (some 42), gp_r (some 42), gp_r (some 41)]) (h' := cH84 L xs) rfl ?_
  refine gp_E.call (y' := 0) (l0 := [gp_r (some 42)]) (st' := [gp_r (some 42), gp_r (some 41)]) rfl (gp_E.mono (ct7 (d := d) L xs) (fun r h q => ?_))
  obtain ⟨rfl, rfl⟩ := q
  show gp_E _ 1536 12 [gp_r (some 41), gp_r (some 6), gp_r (some 31)] [gp_r (some 42), gp_r (some 41)] (cH88 L xs) _
  refine gp_E.stp 1 (pc' := 15) (ls' := [gp_r (some 41), gp_r (some 6), gp_r (some 31)]) (st' := []) (h' := cH89 L xs) rfl ?_
  refine gp_E.stp 3 (pc' := 20) (ls' := [gp_r (some 41), gp_r (some 6), gp_r (some 31)]) (st' := [gp_r (some 45), gp_r (some 41)]) (h' := cH90 L xs) rfl ?_
  refine gp_E.stp 1 (pc' := 23) (ls' := [gp_r (some 41), gp_r (some 6), gp_r (some 31)]) (st' := []) (h' := cH91 L xs) rfl ?_
  refine gp_E.stp 3 (pc' := 28) (ls' := [gp_r (some 41), gp_r (some 6), gp_r (some 31)]) (st' := []) (h' := cH92 L xs) rfl ?_
  refine gp_E.stp 3 (pc' := 33) (ls' := [gp_r (some 41), gp_r (some 6), gp_r (some 31)]) (st' := []) (h' := cH93 L xs) rfl ?_
  exact gp_E.ret (r := none) rfl ⟨rfl, rfl⟩
set_option maxRecDepth 1000000 in
/-- GatheredPoints$Reader.<init> -/
theorem ct9 {d : Nat} (L : Nat) (xs : Nat → Int32) : gp_E d 1280 0 [gp_r (some 46), gp_r (some 6), gp_r (some 20)] [] (cH95 L xs) (fun r h => r = none ∧ h = cH99 L xs) := by
  refine gp_E.stp 5 (pc' := 10) (ls' := [gp_r (some 46), gp_r (some 6), gp_r (some 20)]) (st' := [gp_r (some 47), gp_r (some 46)]) (h' := cH96 L xs) rfl ?_
  refine gp_E.stp 1 (pc' := 13) (ls' := [gp_r (some 46), gp_r (some 6), gp_r (some 20)]) (st' := []) (h' := cH97 L xs) rfl ?_
  refine gp_E.stp 3 (pc' := 18) (ls' := [gp_r (some 46), gp_r (some 6), gp_r (some 20)]) (st' := []) (h' := cH98 L xs) rfl ?_
  refine gp_E.stp 3 (pc' := 23) (ls' := [gp_r (some 46), gp_r (some 6), gp_r (some 20)]) (st' := []) (h' := cH99 L xs) rfl ?_
  exact gp_E.ret (r := none) rfl ⟨rfl, rfl⟩
set_option maxRecDepth 1000000 in
/-- GatheredPoints$Walker.<init> -/
theorem ct10 {d : Nat} (L : Nat) (xs : Nat → Int32) : gp_E d 2560 0 [gp_r (some 48), gp_r (some 6)] [] (cH101 L xs) (fun r h => r = none ∧ h = cH106 L xs) := by
  refine gp_E.stp 5 (pc' := 9) (ls' := [gp_r (some 48), gp_r (some 6)]) (st' := [gp_r (some 49), gp_r (some 48)]) (h' := cH102 L xs) rfl ?_
  refine gp_E.stp 1 (pc' := 12) (ls' := [gp_r (some 48), gp_r (some 6)]) (st' := []) (h' := cH103 L xs) rfl ?_
  refine gp_E.stp 3 (pc' := 18) (ls' := [gp_r (some 48), gp_r (some 6)]) (st' := [gp_r (some 50), gp_r (some 48)]) (h' := cH104 L xs) rfl ?_
  refine gp_E.stp 1 (pc' := 21) (ls' := [gp_r (some 48), gp_r (some 6)]) (st' := []) (h' := cH105 L xs) rfl ?_
  refine gp_E.stp 3 (pc' := 26) (ls' := [gp_r (some 48), gp_r (some 6)]) (st' := []) (h' := cH106 L xs) rfl ?_
  exact gp_E.ret (r := none) rfl ⟨rfl, rfl⟩
set_option maxRecDepth 1000000 in
/-- GatheredPoints$Sum.<init> -/
theorem ct11 {d : Nat} (L : Nat) (xs : Nat → Int32) : gp_E d 2048 0 [gp_r (some 51), gp_r (some 25), gp_n] [] (cH108 L xs) (fun r h => r = none ∧ h = cH122 L xs) := by
  refine gp_E.stp 5 (pc' := 9) (ls' := [gp_r (some 51), gp_r (some 25), gp_n]) (st' := [gp_r (some 52), gp_r (some 51)]) (h' := cH109 L xs) rfl ?_
  refine gp_E.stp 1 (pc' := 12) (ls' := [gp_r (some 51), gp_r (some 25), gp_n]) (st' := []) (h' := cH110 L xs) rfl ?_
  refine gp_E.stp 3 (pc' := 16) (ls' := [gp_r (some 51), gp_r (some 25), gp_n]) (st' := [gp_r (some 53), gp_r (some 51)]) (h' := cH111 L xs) rfl ?_
  refine gp_E.stp 1 (pc' := 19) (ls' := [gp_r (some 51), gp_r (some 25), gp_n]) (st' := []) (h' := cH112 L xs) rfl ?_
  refine gp_E.stp 3 (pc' := 23) (ls' := [gp_r (some 51), gp_r (some 25), gp_n]) (st' := [gp_r (some 54), gp_r (some 51)]) (h' := cH113 L xs) rfl ?_
  refine gp_E.stp 1 (pc' := 26) (ls' := [gp_r (some 51), gp_r (some 25), gp_n]) (st' := []) (h' := cH114 L xs) rfl ?_
  refine gp_E.stp 3 (pc' := 30) (ls' := [gp_r (some 51), gp_r (some 25), gp_n]) (st' := [gp_r (some 55), gp_r (some 51)]) (h' := cH115 L xs) rfl ?_
  refine gp_E.stp 1 (pc' := 33) (ls' := [gp_r (some 51), gp_r (some 25), gp_n]) (st' := []) (h' := cH116 L xs) rfl ?_
  refine gp_E.stp 3 (pc' := 37) (ls' := [gp_r (some 51), gp_r (some 25), gp_n]) (st' := [gp_r (some 56), gp_r (some 51)]) (h' := cH117 L xs) rfl ?_
  refine gp_E.stp 1 (pc' := 40) (ls' := [gp_r (some 51), gp_r (some 25), gp_n]) (st' := []) (h' := cH118 L xs) rfl ?_
  refine gp_E.stp 3 (pc' := 45) (ls' := [gp_r (some 51), gp_r (some 25), gp_n]) (st' := []) (h' := cH119 L xs) rfl ?_
  refine gp_E.stp 10 (pc' := 59) (ls' := [gp_r (some 51), gp_r (some 25), gp_i 0]) (st' := []) (h' := cH120 L xs) rfl ?_
  refine gp_E.stp 10 (pc' := 59) (ls' := [gp_r (some 51), gp_r (some 25), gp_i 1]) (st' := []) (h' := cH121 L xs) rfl ?_
  refine gp_E.stp 10 (pc' := 59) (ls' := [gp_r (some 51), gp_r (some 25), gp_i 2]) (st' := []) (h' := cH122 L xs) rfl ?_
  refine gp_E.stp 5 (pc' := 65) (ls' := [gp_r (some 51), gp_r (some 25), gp_i 3]) (st' := []) (h' := cH122 L xs) rfl ?_
  exact gp_E.ret (r := none) rfl ⟨rfl, rfl⟩
set_option maxRecDepth 1000000 in
/-- GatheredPoints$Sum.<init> -/
theorem ct12 {d : Nat} (L : Nat) (xs : Nat → Int32) : gp_E d 2048 0 [gp_r (some 60), gp_r (some 25), gp_n] [] (cH129 L xs) (fun r h => r = none ∧ h = cH143 L xs) := by
  refine gp_E.stp 5 (pc' := 9) (ls' := [gp_r (some 60), gp_r (some 25), gp_n]) (st' := [gp_r (some 61), gp_r (some 60)]) (h' := cH130 L xs) rfl ?_
  refine gp_E.stp 1 (pc' := 12) (ls' := [gp_r (some 60), gp_r (some 25), gp_n]) (st' := []) (h' := cH131 L xs) rfl ?_
  refine gp_E.stp 3 (pc' := 16) (ls' := [gp_r (some 60), gp_r (some 25), gp_n]) (st' := [gp_r (some 62), gp_r (some 60)]) (h' := cH132 L xs) rfl ?_
  refine gp_E.stp 1 (pc' := 19) (ls' := [gp_r (some 60), gp_r (some 25), gp_n]) (st' := []) (h' := cH133 L xs) rfl ?_
  refine gp_E.stp 3 (pc' := 23) (ls' := [gp_r (some 60), gp_r (some 25), gp_n]) (st' := [gp_r (some 63), gp_r (some 60)]) (h' := cH134 L xs) rfl ?_
  refine gp_E.stp 1 (pc' := 26) (ls' := [gp_r (some 60), gp_r (some 25), gp_n]) (st' := []) (h' := cH135 L xs) rfl ?_
  refine gp_E.stp 3 (pc' := 30) (ls' := [gp_r (some 60), gp_r (some 25), gp_n]) (st' := [gp_r (some 64), gp_r (some 60)]) (h' := cH136 L xs) rfl ?_
  refine gp_E.stp 1 (pc' := 33) (ls' := [gp_r (some 60), gp_r (some 25), gp_n]) (st' := []) (h' := cH137 L xs) rfl ?_
  refine gp_E.stp 3 (pc' := 37) (ls' := [gp_r (some 60), gp_r (some 25), gp_n]) (st' := [gp_r (some 65), gp_r (some 60)]) (h' := cH138 L xs) rfl ?_
  refine gp_E.stp 1 (pc' := 40) (ls' := [gp_r (some 60), gp_r (some 25), gp_n]) (st' := []) (h' := cH139 L xs) rfl ?_
  refine gp_E.stp 3 (pc' := 45) (ls' := [gp_r (some 60), gp_r (some 25), gp_n]) (st' := []) (h' := cH140 L xs) rfl ?_
  refine gp_E.stp 10 (pc' := 59) (ls' := [gp_r (some 60), gp_r (some 25), gp_i 0]) (st' := []) (h' := cH141 L xs) rfl ?_
  refine gp_E.stp 10 (pc' := 59) (ls' := [gp_r (some 60), gp_r (some 25), gp_i 1]) (st' := []) (h' := cH142 L xs) rfl ?_
  refine gp_E.stp 10 (pc' := 59) (ls' := [gp_r (some 60), gp_r (some 25), gp_i 2]) (st' := []) (h' := cH143 L xs) rfl ?_
  refine gp_E.stp 5 (pc' := 65) (ls' := [gp_r (some 60), gp_r (some 25), gp_i 3]) (st' := []) (h' := cH143 L xs) rfl ?_
  exact gp_E.ret (r := none) rfl ⟨rfl, rfl⟩
set_option maxRecDepth 1000000 in
/-- GatheredPoints$Match.<init> -/
theorem ct13 {d : Nat} (L : Nat) (xs : Nat → Int32) : gp_E (d + 1) 512 0 [gp_r (some 57), gp_r (some 25)] [] (cH124 L xs) (fun r h => r = none ∧ h = cH144 L xs) := by
  refine gp_E.stp 5 (pc' := 10) (ls' := [gp_r (some 57), gp_r (some 25)]) (st' := [gp_r (some 58), gp_r (some 57)]) (h' := cH125 L xs) rfl ?_
  refine gp_E.stp 1 (pc' := 13) (ls' := [gp_r (some 57), gp_r (some 25)]) (st' := []) (h' := cH126 L xs) rfl ?_
  refine gp_E.stp 3 (pc' := 19) (ls' := [gp_r (some 57), gp_r (some 25)]) (st' := [gp_r (some 59), gp_r (some 57)]) (h' := cH127 L xs) rfl ?_
  refine gp_E.stp 1 (pc' := 22) (ls' := [gp_r (some 57), gp_r (some 25)]) (st' := []) (h' := cH128 L xs) rfl ?_
  refine gp_E.stp 2 (pc' := 26) (ls' := [gp_r (some 57), gp_r (some 25)]) (st' := [gp_r (some 60), gp_r (some 57)]) (h' := cH129 L xs) rfl ?_
  refine gp_E.stp 2 (pc' := 28) (ls' := [gp_r (some 57), gp_r (some 25)]) (st' := [gp_r (some 25), gp_r (some 60), gp_r (some 60), gp_r (some 57)]) (h' := cH129 L xs) rfl ?_
  refine gp_E.call (y' := 2048) (l0 := [gp_r (some 60), gp_r (some 25), gp_n]) (st' := [gp_r (some 60), gp_r (some 57)]) rfl (gp_E.mono (ct12 (d := d) L xs) (fun r h q => ?_))
  obtain ⟨rfl, rfl⟩ := q
  show gp_E _ 512 31 [gp_r (some 57), gp_r (some 25)] [gp_r (some 60), gp_r (some 57)] (cH143 L xs) _
  refine gp_E.stp 1 (pc' := 34) (ls' := [gp_r (some 57), gp_r (some 25)]) (st' := []) (h' := cH144 L xs) rfl ?_
  exact gp_E.ret (r := none) rfl ⟨rfl, rfl⟩
set_option maxRecDepth 1000000 in
/-- GatheredPoints$Sheets.<init> -/
theorem ct14 {d : Nat} (L : Nat) (xs : Nat → Int32) : gp_E d 1792 0 [gp_r (some 66)] [] (cH146 L xs) (fun r h => r = none ∧ h = cH152 L xs) := by
  refine gp_E.stp 6 (pc' := 12) (ls' := [gp_r (some 66)]) (st' := [gp_r (some 67), gp_r (some 66)]) (h' := cH147 L xs) rfl ?_
  refine gp_E.stp 1 (pc' := 15) (ls' := [gp_r (some 66)]) (st' := []) (h' := cH148 L xs) rfl ?_
  refine gp_E.stp 3 (pc' := 19) (ls' := [gp_r (some 66)]) (st' := [gp_r (some 72), gp_r (some 66)]) (h' := cH149 L xs) rfl ?_
  refine gp_E.stp 1 (pc' := 22) (ls' := [gp_r (some 66)]) (st' := []) (h' := cH150 L xs) rfl ?_
  refine gp_E.stp 3 (pc' := 26) (ls' := [gp_r (some 66)]) (st' := [gp_r (some 73), gp_r (some 66)]) (h' := cH151 L xs) rfl ?_
  refine gp_E.stp 1 (pc' := 29) (ls' := [gp_r (some 66)]) (st' := []) (h' := cH152 L xs) rfl ?_
  exact gp_E.ret (r := none) rfl ⟨rfl, rfl⟩
set_option maxRecDepth 1000000 in
/-- GatheredPoints.<init> -/
theorem ct15 {d : Nat} (L : Nat) (xs : Nat → Int32) : gp_E (d + 2) 2816 0 [gp_r (some 1), gp_n, gp_n] [] (cH1 L xs) (fun r h => r = none ∧ h = cH169 L xs) := by
  refine gp_E.stp 5 (pc' := 9) (ls' := [gp_r (some 1), gp_n, gp_n]) (st' := [gp_r (some 2), gp_r (some 1)]) (h' := cH2 L xs) rfl ?_
  refine gp_E.stp 1 (pc' := 12) (ls' := [gp_r (some 1), gp_n, gp_n]) (st' := []) (h' := cH3 L xs) rfl ?_
  refine gp_E.stp 3 (pc' := 17) (ls' := [gp_r (some 1), gp_n, gp_n]) (st' := [gp_r (some 3), gp_r (some 1)]) (h' := cH4 L xs) rfl ?_
  refine gp_E.stp 1 (pc' := 20) (ls' := [gp_r (some 1), gp_n, gp_n]) (st' := []) (h' := cH5 L xs) rfl ?_
  refine gp_E.stp 3 (pc' := 26) (ls' := [gp_r (some 1), gp_n, gp_n]) (st' := [gp_r (some 4), gp_r (some 1)]) (h' := cH6 L xs) rfl ?_
  refine gp_E.stp 1 (pc' := 29) (ls' := [gp_r (some 1), gp_n, gp_n]) (st' := []) (h' := cH7 L xs) rfl ?_
  refine gp_E.stp 3 (pc' := 35) (ls' := [gp_r (some 1), gp_n, gp_n]) (st' := [gp_r (some 5), gp_r (some 1)]) (h' := cH8 L xs) rfl ?_
  refine gp_E.stp 1 (pc' := 38) (ls' := [gp_r (some 1), gp_n, gp_n]) (st' := []) (h' := cH9 L xs) rfl ?_
  refine gp_E.stp 1 (pc' := 41) (ls' := [gp_r (some 1), gp_n, gp_n]) (st' := [gp_r (some 6)]) (h' := cH10 L xs) rfl ?_
  refine gp_E.stp 1 (pc' := 42) (ls' := [gp_r (some 1), gp_n, gp_n]) (st' := [gp_r (some 6), gp_r (some 6)]) (h' := cH10 L xs) rfl ?_
  refine gp_E.call (y' := 1024) (l0 := [gp_r (some 6)]) (st' := [gp_r (some 6)]) rfl (gp_E.mono (ct2 (d := d) L xs) (fun r h q => ?_))
  obtain ⟨rfl, rfl⟩ := q
  show gp_E _ 2816 45 [gp_r (some 1), gp_n, gp_n] [gp_r (some 6)] (cH37 L xs) _
  refine gp_E.stp 4 (pc' := 51) (ls' := [gp_r (some 1), gp_r (some 6), gp_n]) (st' := []) (h' := cH38 L xs) rfl ?_
  refine gp_E.stp 2 (pc' := 55) (ls' := [gp_r (some 1), gp_r (some 6), gp_n]) (st' := [gp_r (some 20), gp_r (some 1)]) (h' := cH39 L xs) rfl ?_
  refine gp_E.stp 2 (pc' := 57) (ls' := [gp_r (some 1), gp_r (some 6), gp_n]) (st' := [gp_r (some 6), gp_r (some 20), gp_r (some 20), gp_r (some 1)]) (h' := cH39 L xs) rfl ?_
  refine gp_E.call (y' := 256) (l0 := [gp_r (some 20), gp_r (some 6)]) (st' := [gp_r (some 20), gp_r (some 1)]) rfl (gp_E.mono (ct4 (d := d) L xs) (fun r h q => ?_))
  obtain ⟨rfl, rfl⟩ := q
  show gp_E _ 2816 60 [gp_r (some 1), gp_r (some 6), gp_n] [gp_r (some 20), gp_r (some 1)] (cH61 L xs) _
  refine gp_E.stp 1 (pc' := 63) (ls' := [gp_r (some 1), gp_r (some 6), gp_n]) (st' := []) (h' := cH62 L xs) rfl ?_
  refine gp_E.stp 2 (pc' := 67) (ls' := [gp_r (some 1), gp_r (some 6), gp_n]) (st' := [gp_r (some 31), gp_r (some 1)]) (h' := cH63 L xs) rfl ?_
  refine gp_E.stp 1 (pc' := 68) (ls' := [gp_r (some 1), gp_r (some 6), gp_n]) (st' := [gp_r (some 31), gp_r (some 31), gp_r (some 1)]) (h' := cH63 L xs) rfl ?_
  refine gp_E.call (y' := 768) (l0 := [gp_r (some 31)]) (st' := [gp_r (some 31), gp_r (some 1)]) rfl (gp_E.mono (ct5 (d := d + 1) L xs) (fun r h q => ?_))
  obtain ⟨rfl, rfl⟩ := q
  show gp_E _ 2816 71 [gp_r (some 1), gp_r (some 6), gp_n] [gp_r (some 31), gp_r (some 1)] (cH75 L xs) _
  refine gp_E.stp 1 (pc' := 74) (ls' := [gp_r (some 1), gp_r (some 6), gp_n]) (st' := []) (h' := cH76 L xs) rfl ?_
  refine gp_E.stp 2 (pc' := 78) (ls' := [gp_r (some 1), gp_r (some 6), gp_n]) (st' := [gp_r (some 38), gp_r (some 1)]) (h' := cH77 L xs) rfl ?_
  refine gp_E.stp 1 (pc' := 79) (ls' := [gp_r (some 1), gp_r (some 6), gp_n]) (st' := [gp_r (some 38), gp_r (some 38), gp_r (some 1)]) (h' := cH77 L xs) rfl ?_
  refine gp_E.call (y' := 0) (l0 := [gp_r (some 38)]) (st' := [gp_r (some 38), gp_r (some 1)]) rfl (gp_E.mono (ct6 (d := d + 1) L xs) (fun r h q => ?_))
  obtain ⟨rfl, rfl⟩ := q
  show gp_E _ 2816 82 [gp_r (some 1), gp_r (some 6), gp_n] [gp_r (some 38), gp_r (some 1)] (cH81 L xs) _
  refine gp_E.stp 1 (pc' := 85) (ls' := [gp_r (some 1), gp_r (some 6), gp_n]) (st' := []) (h' := cH82 L xs) rfl ?_
  refine gp_E.stp 2 (pc' := 89) (ls' := [gp_r (some 1), gp_r (some 6), gp_n]) (st' := [gp_r (some 41), gp_r (some 1)]) (h' := cH83 L xs) rfl ?_
  refine gp_E.stp 4 (pc' := 95) (ls' := [gp_r (some 1), gp_r (some 6), gp_n]) (st' := [gp_r (some 31), gp_r (some 6), gp_r (some 41), gp_r (some 41), gp_r (some 1)]) (h' := cH83 L xs) rfl ?_
  refine gp_E.call (y' := 1536) (l0 := [gp_r (some 41), gp_r (some 6), gp_r (some 31)]) (st' := [gp_r (some 41), gp_r (some 1)]) rfl (gp_E.mono (ct8 (d := d) L xs) (fun r h q => ?_))
  obtain ⟨rfl, rfl⟩ := q
  show gp_E _ 2816 98 [gp_r (some 1), gp_r (some 6), gp_n] [gp_r (some 41), gp_r (some 1)] (cH93 L xs) _
  refine gp_E.stp 1 (pc' := 101) (ls' := [gp_r (some 1), gp_r (some 6), gp_n]) (st' := []) (h' := cH94 L xs) rfl ?_
  refine gp_E.stp 2 (pc' := 105) (ls' := [gp_r (some 1), gp_r (some 6), gp_n]) (st' := [gp_r (some 46), gp_r (some 1)]) (h' := cH95 L xs) rfl ?_
  refine gp_E.stp 4 (pc' := 111) (ls' := [gp_r (some 1), gp_r (some 6), gp_n]) (st' := [gp_r (some 20), gp_r (some 6), gp_r (some 46), gp_r (some 46), gp_r (some 1)]) (h' := cH95 L xs) rfl ?_
  refine gp_E.call (y' := 1280) (l0 := [gp_r (some 46), gp_r (some 6), gp_r (some 20)]) (st' := [gp_r (some 46), gp_r (some 1)]) rfl (gp_E.mono (ct9 (d := d + 1) L xs) (fun r h q => ?_))
  obtain ⟨rfl, rfl⟩ := q
  show gp_E _ 2816 114 [gp_r (some 1), gp_r (some 6), gp_n] [gp_r (some 46), gp_r (some 1)] (cH99 L xs) _
  refine gp_E.stp 1 (pc' := 117) (ls' := [gp_r (some 1), gp_r (some 6), gp_n]) (st' := []) (h' := cH100 L xs) rfl ?_
  refine gp_E.stp 2 (pc' := 121) (ls' := [gp_r (some 1), gp_r (some 6), gp_n]) (st' := [gp_r (some 48), gp_r (some 1)]) (h' := cH101 L xs) rfl ?_
  refine gp_E.stp 2 (pc' := 123) (ls' := [gp_r (some 1), gp_r (some 6), gp_n]) (st' := [gp_r (some 6), gp_r (some 48), gp_r (some 48), gp_r (some 1)]) (h' := cH101 L xs) rfl ?_
  refine gp_E.call (y' := 2560) (l0 := [gp_r (some 48), gp_r (some 6)]) (st' := [gp_r (some 48), gp_r (some 1)]) rfl (gp_E.mono (ct10 (d := d + 1) L xs) (fun r h q => ?_))
  obtain ⟨rfl, rfl⟩ := q
  show gp_E _ 2816 126 [gp_r (some 1), gp_r (some 6), gp_n] [gp_r (some 48), gp_r (some 1)] (cH106 L xs) _
  refine gp_E.stp 1 (pc' := 129) (ls' := [gp_r (some 1), gp_r (some 6), gp_n]) (st' := []) (h' := cH107 L xs) rfl ?_
  refine gp_E.stp 2 (pc' := 133) (ls' := [gp_r (some 1), gp_r (some 6), gp_n]) (st' := [gp_r (some 51), gp_r (some 1)]) (h' := cH108 L xs) rfl ?_
  refine gp_E.stp 4 (pc' := 141) (ls' := [gp_r (some 1), gp_r (some 6), gp_n]) (st' := [gp_r (some 25), gp_r (some 51), gp_r (some 51), gp_r (some 1)]) (h' := cH108 L xs) rfl ?_
  refine gp_E.call (y' := 2048) (l0 := [gp_r (some 51), gp_r (some 25), gp_n]) (st' := [gp_r (some 51), gp_r (some 1)]) rfl (gp_E.mono (ct11 (d := d + 1) L xs) (fun r h q => ?_))
  obtain ⟨rfl, rfl⟩ := q
  show gp_E _ 2816 144 [gp_r (some 1), gp_r (some 6), gp_n] [gp_r (some 51), gp_r (some 1)] (cH122 L xs) _
  refine gp_E.stp 1 (pc' := 147) (ls' := [gp_r (some 1), gp_r (some 6), gp_n]) (st' := []) (h' := cH123 L xs) rfl ?_
  refine gp_E.stp 2 (pc' := 151) (ls' := [gp_r (some 1), gp_r (some 6), gp_n]) (st' := [gp_r (some 57), gp_r (some 1)]) (h' := cH124 L xs) rfl ?_
  refine gp_E.stp 4 (pc' := 159) (ls' := [gp_r (some 1), gp_r (some 6), gp_n]) (st' := [gp_r (some 25), gp_r (some 57), gp_r (some 57), gp_r (some 1)]) (h' := cH124 L xs) rfl ?_
  refine gp_E.call (y' := 512) (l0 := [gp_r (some 57), gp_r (some 25)]) (st' := [gp_r (some 57), gp_r (some 1)]) rfl (gp_E.mono (ct13 (d := d) L xs) (fun r h q => ?_))
  obtain ⟨rfl, rfl⟩ := q
  show gp_E _ 2816 162 [gp_r (some 1), gp_r (some 6), gp_n] [gp_r (some 57), gp_r (some 1)] (cH144 L xs) _
  refine gp_E.stp 1 (pc' := 165) (ls' := [gp_r (some 1), gp_r (some 6), gp_n]) (st' := []) (h' := cH145 L xs) rfl ?_
  refine gp_E.stp 2 (pc' := 169) (ls' := [gp_r (some 1), gp_r (some 6), gp_n]) (st' := [gp_r (some 66), gp_r (some 1)]) (h' := cH146 L xs) rfl ?_
  refine gp_E.stp 1 (pc' := 170) (ls' := [gp_r (some 1), gp_r (some 6), gp_n]) (st' := [gp_r (some 66), gp_r (some 66), gp_r (some 1)]) (h' := cH146 L xs) rfl ?_
  refine gp_E.call (y' := 1792) (l0 := [gp_r (some 66)]) (st' := [gp_r (some 66), gp_r (some 1)]) rfl (gp_E.mono (ct14 (d := d + 1) L xs) (fun r h q => ?_))
  obtain ⟨rfl, rfl⟩ := q
  show gp_E _ 2816 173 [gp_r (some 1), gp_r (some 6), gp_n] [gp_r (some 66), gp_r (some 1)] (cH152 L xs) _
  refine gp_E.stp 1 (pc' := 176) (ls' := [gp_r (some 1), gp_r (some 6), gp_n]) (st' := []) (h' := cH153 L xs) rfl ?_
  refine gp_E.stp 12 (pc' := 197) (ls' := [gp_r (some 1), gp_r (some 6), gp_i 0]) (st' := []) (h' := cH154 L xs) rfl ?_
  refine gp_E.stp 7 (pc' := 210) (ls' := [gp_r (some 1), gp_r (some 6), gp_i 0]) (st' := []) (h' := cH155 L xs) rfl ?_
  refine gp_E.stp 12 (pc' := 197) (ls' := [gp_r (some 1), gp_r (some 6), gp_i 1]) (st' := []) (h' := cH156 L xs) rfl ?_
  refine gp_E.stp 7 (pc' := 210) (ls' := [gp_r (some 1), gp_r (some 6), gp_i 1]) (st' := []) (h' := cH157 L xs) rfl ?_
  refine gp_E.stp 12 (pc' := 197) (ls' := [gp_r (some 1), gp_r (some 6), gp_i 2]) (st' := []) (h' := cH158 L xs) rfl ?_
  refine gp_E.stp 7 (pc' := 210) (ls' := [gp_r (some 1), gp_r (some 6), gp_i 2]) (st' := []) (h' := cH159 L xs) rfl ?_
  refine gp_E.stp 12 (pc' := 197) (ls' := [gp_r (some 1), gp_r (some 6), gp_i 3]) (st' := []) (h' := cH160 L xs) rfl ?_
  refine gp_E.stp 7 (pc' := 210) (ls' := [gp_r (some 1), gp_r (some 6), gp_i 3]) (st' := []) (h' := cH161 L xs) rfl ?_
  refine gp_E.stp 12 (pc' := 197) (ls' := [gp_r (some 1), gp_r (some 6), gp_i 4]) (st' := []) (h' := cH162 L xs) rfl ?_
  refine gp_E.stp 7 (pc' := 210) (ls' := [gp_r (some 1), gp_r (some 6), gp_i 4]) (st' := []) (h' := cH163 L xs) rfl ?_
  refine gp_E.stp 12 (pc' := 197) (ls' := [gp_r (some 1), gp_r (some 6), gp_i 5]) (st' := []) (h' := cH164 L xs) rfl ?_
  refine gp_E.stp 7 (pc' := 210) (ls' := [gp_r (some 1), gp_r (some 6), gp_i 5]) (st' := []) (h' := cH165 L xs) rfl ?_
  refine gp_E.stp 12 (pc' := 197) (ls' := [gp_r (some 1), gp_r (some 6), gp_i 6]) (st' := []) (h' := cH166 L xs) rfl ?_
  refine gp_E.stp 7 (pc' := 210) (ls' := [gp_r (some 1), gp_r (some 6), gp_i 6]) (st' := []) (h' := cH167 L xs) rfl ?_
  refine gp_E.stp 12 (pc' := 197) (ls' := [gp_r (some 1), gp_r (some 6), gp_i 7]) (st' := []) (h' := cH168 L xs) rfl ?_
  refine gp_E.stp 7 (pc' := 210) (ls' := [gp_r (some 1), gp_r (some 6), gp_i 7]) (st' := []) (h' := cH169 L xs) rfl ?_
  refine gp_E.stp 5 (pc' := 216) (ls' := [gp_r (some 1), gp_r (some 6), gp_i 8]) (st' := []) (h' := cH169 L xs) rfl ?_
  exact gp_E.ret (r := none) rfl ⟨rfl, rfl⟩
set_option maxRecDepth 1000000 in
/-- GatheredPointsModel.<init> -/
theorem ct16 {d : Nat} (L : Nat) (xs : Nat → Int32) : gp_E d 3072 0 [gp_r (some 74), gp_n] [] (cH170 L xs) (fun r h => r = none ∧ h = cH263 L xs) := by
  refine gp_E.stp 5 (pc' := 9) (ls' := [gp_r (some 74), gp_n]) (st' := [gp_r (some 75), gp_r (some 74)]) (h' := cH171 L xs) rfl ?_
  refine gp_E.stp 1 (pc' := 12) (ls' := [gp_r (some 74), gp_n]) (st' := []) (h' := cH172 L xs) rfl ?_
  refine gp_E.stp 3 (pc' := 18) (ls' := [gp_r (some 74), gp_n]) (st' := [gp_r (some 76), gp_r (some 74)]) (h' := cH173 L xs) rfl ?_
  refine gp_E.stp 1 (pc' := 21) (ls' := [gp_r (some 74), gp_n]) (st' := []) (h' := cH174 L xs) rfl ?_
  refine gp_E.stp 3 (pc' := 27) (ls' := [gp_r (some 74), gp_n]) (st' := [gp_r (some 77), gp_r (some 74)]) (h' := cH175 L xs) rfl ?_
  refine gp_E.stp 1 (pc' := 30) (ls' := [gp_r (some 74), gp_n]) (st' := []) (h' := cH176 L xs) rfl ?_
  refine gp_E.stp 3 (pc' := 36) (ls' := [gp_r (some 74), gp_n]) (st' := [gp_r (some 78), gp_r (some 74)]) (h' := cH177 L xs) rfl ?_
  refine gp_E.stp 1 (pc' := 39) (ls' := [gp_r (some 74), gp_n]) (st' := []) (h' := cH178 L xs) rfl ?_
  refine gp_E.stp 3 (pc' := 45) (ls' := [gp_r (some 74), gp_n]) (st' := [gp_r (some 79), gp_r (some 74)]) (h' := cH179 L xs) rfl ?_
  refine gp_E.stp 1 (pc' := 48) (ls' := [gp_r (some 74), gp_n]) (st' := []) (h' := cH180 L xs) rfl ?_
  refine gp_E.stp 3 (pc' := 54) (ls' := [gp_r (some 74), gp_n]) (st' := [gp_r (some 80), gp_r (some 74)]) (h' := cH181 L xs) rfl ?_
  refine gp_E.stp 1 (pc' := 57) (ls' := [gp_r (some 74), gp_n]) (st' := []) (h' := cH182 L xs) rfl ?_
  refine gp_E.stp 3 (pc' := 62) (ls' := [gp_r (some 74), gp_n]) (st' := [gp_r (some 81), gp_r (some 74)]) (h' := cH183 L xs) rfl ?_
  refine gp_E.stp 1 (pc' := 65) (ls' := [gp_r (some 74), gp_n]) (st' := []) (h' := cH184 L xs) rfl ?_
  refine gp_E.stp 3 (pc' := 70) (ls' := [gp_r (some 74), gp_n]) (st' := []) (h' := cH185 L xs) rfl ?_
  refine gp_E.stp 3 (pc' := 75) (ls' := [gp_r (some 74), gp_n]) (st' := [gp_r (some 82), gp_r (some 74)]) (h' := cH186 L xs) rfl ?_
  refine gp_E.stp 1 (pc' := 78) (ls' := [gp_r (some 74), gp_n]) (st' := []) (h' := cH187 L xs) rfl ?_
  refine gp_E.stp 3 (pc' := 83) (ls' := [gp_r (some 74), gp_n]) (st' := [gp_r (some 83), gp_r (some 74)]) (h' := cH188 L xs) rfl ?_
  refine gp_E.stp 1 (pc' := 86) (ls' := [gp_r (some 74), gp_n]) (st' := []) (h' := cH189 L xs) rfl ?_
  refine gp_E.stp 3 (pc' := 90) (ls' := [gp_r (some 74), gp_n]) (st' := [gp_r (some 84), gp_r (some 74)]) (h' := cH190 L xs) rfl ?_
  refine gp_E.stp 1 (pc' := 93) (ls' := [gp_r (some 74), gp_n]) (st' := []) (h' := cH191 L xs) rfl ?_
  refine gp_E.stp 3 (pc' := 97) (ls' := [gp_r (some 74), gp_n]) (st' := [gp_r (some 85), gp_r (some 74)]) (h' := cH192 L xs) rfl ?_
  refine gp_E.stp 1 (pc' := 100) (ls' := [gp_r (some 74), gp_n]) (st' := []) (h' := cH193 L xs) rfl ?_
  refine gp_E.stp 3 (pc' := 106) (ls' := [gp_r (some 74), gp_n]) (st' := [gp_r (some 86), gp_r (some 74)]) (h' := cH194 L xs) rfl ?_
  refine gp_E.stp 1 (pc' := 109) (ls' := [gp_r (some 74), gp_n]) (st' := []) (h' := cH195 L xs) rfl ?_
  refine gp_E.stp 3 (pc' := 114) (ls' := [gp_r (some 74), gp_n]) (st' := [gp_r (some 87), gp_r (some 74)]) (h' := cH196 L xs) rfl ?_
  refine gp_E.stp 1 (pc' := 117) (ls' := [gp_r (some 74), gp_n]) (st' := []) (h' := cH197 L xs) rfl ?_
  refine gp_E.stp 3 (pc' := 122) (ls' := [gp_r (some 74), gp_n]) (st' := [gp_r (some 88), gp_r (some 74)]) (h' := cH198 L xs) rfl ?_
  refine gp_E.stp 1 (pc' := 125) (ls' := [gp_r (some 74), gp_n]) (st' := []) (h' := cH199 L xs) rfl ?_
  refine gp_E.stp 3 (pc' := 130) (ls' := [gp_r (some 74), gp_n]) (st' := [gp_r (some 89), gp_r (some 74)]) (h' := cH200 L xs) rfl ?_
  refine gp_E.stp 1 (pc' := 133) (ls' := [gp_r (some 74), gp_n]) (st' := []) (h' := cH201 L xs) rfl ?_
  refine gp_E.stp 3 (pc' := 138) (ls' := [gp_r (some 74), gp_n]) (st' := [gp_r (some 90), gp_r (some 74)]) (h' := cH202 L xs) rfl ?_
  refine gp_E.stp 1 (pc' := 141) (ls' := [gp_r (some 74), gp_n]) (st' := []) (h' := cH203 L xs) rfl ?_
  refine gp_E.stp 3 (pc' := 146) (ls' := [gp_r (some 74), gp_n]) (st' := [gp_r (some 91), gp_r (some 74)]) (h' := cH204 L xs) rfl ?_
  refine gp_E.stp 1 (pc' := 149) (ls' := [gp_r (some 74), gp_n]) (st' := []) (h' := cH205 L xs) rfl ?_
  refine gp_E.stp 3 (pc' := 154) (ls' := [gp_r (some 74), gp_n]) (st' := [gp_r (some 92), gp_r (some 74)]) (h' := cH206 L xs) rfl ?_
  refine gp_E.stp 1 (pc' := 157) (ls' := [gp_r (some 74), gp_n]) (st' := []) (h' := cH207 L xs) rfl ?_
  refine gp_E.stp 3 (pc' := 162) (ls' := [gp_r (some 74), gp_n]) (st' := [gp_r (some 93), gp_r (some 74)]) (h' := cH208 L xs) rfl ?_
  refine gp_E.stp 1 (pc' := 165) (ls' := [gp_r (some 74), gp_n]) (st' := []) (h' := cH209 L xs) rfl ?_
  refine gp_E.stp 3 (pc' := 171) (ls' := [gp_r (some 74), gp_n]) (st' := [gp_r (some 94), gp_r (some 74)]) (h' := cH210 L xs) rfl ?_
  refine gp_E.stp 1 (pc' := 174) (ls' := [gp_r (some 74), gp_n]) (st' := []) (h' := cH211 L xs) rfl ?_
  refine gp_E.stp 3 (pc' := 180) (ls' := [gp_r (some 74), gp_n]) (st' := [gp_r (some 95), gp_r (some 74)]) (h' := cH212 L xs) rfl ?_
  refine gp_E.stp 1 (pc' := 183) (ls' := [gp_r (some 74), gp_n]) (st' := []) (h' := cH213 L xs) rfl ?_
  refine gp_E.stp 3 (pc' := 189) (ls' := [gp_r (some 74), gp_n]) (st' := [gp_r (some 96), gp_r (some 74)]) (h' := cH214 L xs) rfl ?_
  refine gp_E.stp 1 (pc' := 192) (ls' := [gp_r (some 74), gp_n]) (st' := []) (h' := cH215 L xs) rfl ?_
  refine gp_E.stp 3 (pc' := 198) (ls' := [gp_r (some 74), gp_n]) (st' := [gp_r (some 97), gp_r (some 74)]) (h' := cH216 L xs) rfl ?_
  refine gp_E.stp 1 (pc' := 201) (ls' := [gp_r (some 74), gp_n]) (st' := []) (h' := cH217 L xs) rfl ?_
  refine gp_E.stp 3 (pc' := 207) (ls' := [gp_r (some 74), gp_n]) (st' := [gp_r (some 98), gp_r (some 74)]) (h' := cH218 L xs) rfl ?_
  refine gp_E.stp 1 (pc' := 210) (ls' := [gp_r (some 74), gp_n]) (st' := []) (h' := cH219 L xs) rfl ?_
  refine gp_E.stp 3 (pc' := 216) (ls' := [gp_r (some 74), gp_n]) (st' := [gp_r (some 99), gp_r (some 74)]) (h' := cH220 L xs) rfl ?_
  refine gp_E.stp 1 (pc' := 219) (ls' := [gp_r (some 74), gp_n]) (st' := []) (h' := cH221 L xs) rfl ?_
  refine gp_E.stp 3 (pc' := 224) (ls' := [gp_r (some 74), gp_n]) (st' := [gp_r (some 100), gp_r (some 74)]) (h' := cH222 L xs) rfl ?_
  refine gp_E.stp 1 (pc' := 227) (ls' := [gp_r (some 74), gp_n]) (st' := []) (h' := cH223 L xs) rfl ?_
  refine gp_E.stp 3 (pc' := 232) (ls' := [gp_r (some 74), gp_n]) (st' := [gp_r (some 101), gp_r (some 74)]) (h' := cH224 L xs) rfl ?_
  refine gp_E.stp 1 (pc' := 235) (ls' := [gp_r (some 74), gp_n]) (st' := []) (h' := cH225 L xs) rfl ?_
  refine gp_E.stp 3 (pc' := 240) (ls' := [gp_r (some 74), gp_n]) (st' := [gp_r (some 102), gp_r (some 74)]) (h' := cH226 L xs) rfl ?_
  refine gp_E.stp 1 (pc' := 243) (ls' := [gp_r (some 74), gp_n]) (st' := []) (h' := cH227 L xs) rfl ?_
  refine gp_E.stp 3 (pc' := 248) (ls' := [gp_r (some 74), gp_n]) (st' := [gp_r (some 103), gp_r (some 74)]) (h' := cH228 L xs) rfl ?_
  refine gp_E.stp 1 (pc' := 251) (ls' := [gp_r (some 74), gp_n]) (st' := []) (h' := cH229 L xs) rfl ?_
  refine gp_E.stp 3 (pc' := 256) (ls' := [gp_r (some 74), gp_n]) (st' := [gp_r (some 104), gp_r (some 74)]) (h' := cH230 L xs) rfl ?_
  refine gp_E.stp 1 (pc' := 259) (ls' := [gp_r (some 74), gp_n]) (st' := []) (h' := cH231 L xs) rfl ?_
  refine gp_E.stp 3 (pc' := 265) (ls' := [gp_r (some 74), gp_n]) (st' := [gp_r (some 105), gp_r (some 74)]) (h' := cH232 L xs) rfl ?_
  refine gp_E.stp 1 (pc' := 268) (ls' := [gp_r (some 74), gp_n]) (st' := []) (h' := cH233 L xs) rfl ?_
  refine gp_E.stp 3 (pc' := 272) (ls' := [gp_r (some 74), gp_n]) (st' := [gp_r (some 106), gp_r (some 74)]) (h' := cH234 L xs) rfl ?_
  refine gp_E.stp 1 (pc' := 275) (ls' := [gp_r (some 74), gp_n]) (st' := []) (h' := cH235 L xs) rfl ?_
  refine gp_E.stp 3 (pc' := 279) (ls' := [gp_r (some 74), gp_n]) (st' := [gp_r (some 107), gp_r (some 74)]) (h' := cH236 L xs) rfl ?_
  refine gp_E.stp 1 (pc' := 282) (ls' := [gp_r (some 74), gp_n]) (st' := []) (h' := cH237 L xs) rfl ?_
  refine gp_E.stp 3 (pc' := 287) (ls' := [gp_r (some 74), gp_n]) (st' := [gp_r (some 108), gp_r (some 74)]) (h' := cH238 L xs) rfl ?_
  refine gp_E.stp 1 (pc' := 290) (ls' := [gp_r (some 74), gp_n]) (st' := []) (h' := cH239 L xs) rfl ?_
  refine gp_E.stp 3 (pc' := 295) (ls' := [gp_r (some 74), gp_n]) (st' := [gp_r (some 109), gp_r (some 74)]) (h' := cH240 L xs) rfl ?_
  refine gp_E.stp 1 (pc' := 298) (ls' := [gp_r (some 74), gp_n]) (st' := []) (h' := cH241 L xs) rfl ?_
  refine gp_E.stp 3 (pc' := 302) (ls' := [gp_r (some 74), gp_n]) (st' := [gp_r (some 110), gp_r (some 74)]) (h' := cH242 L xs) rfl ?_
  refine gp_E.stp 1 (pc' := 305) (ls' := [gp_r (some 74), gp_n]) (st' := []) (h' := cH243 L xs) rfl ?_
  refine gp_E.stp 3 (pc' := 309) (ls' := [gp_r (some 74), gp_n]) (st' := [gp_r (some 111), gp_r (some 74)]) (h' := cH244 L xs) rfl ?_
  refine gp_E.stp 1 (pc' := 312) (ls' := [gp_r (some 74), gp_n]) (st' := []) (h' := cH245 L xs) rfl ?_
  refine gp_E.stp 3 (pc' := 316) (ls' := [gp_r (some 74), gp_n]) (st' := [gp_r (some 112), gp_r (some 74)]) (h' := cH246 L xs) rfl ?_
  refine gp_E.stp 1 (pc' := 319) (ls' := [gp_r (some 74), gp_n]) (st' := []) (h' := cH247 L xs) rfl ?_
  refine gp_E.stp 3 (pc' := 325) (ls' := [gp_r (some 74), gp_n]) (st' := [gp_r (some 113), gp_r (some 74)]) (h' := cH248 L xs) rfl ?_
  refine gp_E.stp 1 (pc' := 328) (ls' := [gp_r (some 74), gp_n]) (st' := []) (h' := cH249 L xs) rfl ?_
  refine gp_E.stp 3 (pc' := 334) (ls' := [gp_r (some 74), gp_n]) (st' := [gp_r (some 114), gp_r (some 74)]) (h' := cH250 L xs) rfl ?_
  refine gp_E.stp 1 (pc' := 337) (ls' := [gp_r (some 74), gp_n]) (st' := []) (h' := cH251 L xs) rfl ?_
  refine gp_E.stp 3 (pc' := 343) (ls' := [gp_r (some 74), gp_n]) (st' := [gp_r (some 115), gp_r (some 74)]) (h' := cH252 L xs) rfl ?_
  refine gp_E.stp 1 (pc' := 346) (ls' := [gp_r (some 74), gp_n]) (st' := []) (h' := cH253 L xs) rfl ?_
  refine gp_E.stp 3 (pc' := 351) (ls' := [gp_r (some 74), gp_n]) (st' := [gp_r (some 116), gp_r (some 74)]) (h' := cH254 L xs) rfl ?_
  refine gp_E.stp 1 (pc' := 354) (ls' := [gp_r (some 74), gp_n]) (st' := []) (h' := cH255 L xs) rfl ?_
  refine gp_E.stp 10 (pc' := 369) (ls' := [gp_r (some 74), gp_i 0]) (st' := []) (h' := cH256 L xs) rfl ?_
  refine gp_E.stp 10 (pc' := 369) (ls' := [gp_r (some 74), gp_i 1]) (st' := []) (h' := cH257 L xs) rfl ?_
  refine gp_E.stp 10 (pc' := 369) (ls' := [gp_r (some 74), gp_i 2]) (st' := []) (h' := cH258 L xs) rfl ?_
  refine gp_E.stp 10 (pc' := 369) (ls' := [gp_r (some 74), gp_i 3]) (st' := []) (h' := cH259 L xs) rfl ?_
  refine gp_E.stp 10 (pc' := 369) (ls' := [gp_r (some 74), gp_i 4]) (st' := []) (h' := cH260 L xs) rfl ?_
  refine gp_E.stp 10 (pc' := 369) (ls' := [gp_r (some 74), gp_i 5]) (st' := []) (h' := cH261 L xs) rfl ?_
  refine gp_E.stp 10 (pc' := 369) (ls' := [gp_r (some 74), gp_i 6]) (st' := []) (h' := cH262 L xs) rfl ?_
  refine gp_E.stp 10 (pc' := 369) (ls' := [gp_r (some 74), gp_i 7]) (st' := []) (h' := cH263 L xs) rfl ?_
  refine gp_E.stp 5 (pc' := 375) (ls' := [gp_r (some 74), gp_i 8]) (st' := []) (h' := cH263 L xs) rfl ?_
  exact gp_E.ret (r := none) rfl ⟨rfl, rfl⟩
set_option maxRecDepth 1000000 in
/-- the law as far as its loop -/
theorem ct_law {d : Nat} (L : Nat) (xs : Nat → Int32) {Q : Option gV → gH → Prop} (k : gp_E (d + 3) 4352 18 [gp_r (some 0), gp_r (some 1), gp_r (some 74), gp_i 0] [] (cH263 L xs) Q) : gp_E (d + 3) 4352 0 [gp_r (some 0), gp_n, gp_n, gp_n] [] (gp_start L xs) Q := by
  show gp_E (d + 3) 4352 0 [gp_r (some 0), gp_n, gp_n, gp_n] [] (cH0 L xs) Q
  refine gp_E.stp 1 (pc' := 3) (ls' := [gp_r (some 0), gp_n, gp_n, gp_n]) (st' := [gp_r (some 1)]) (h' := cH1 L xs) rfl ?_
  refine gp_E.stp 1 (pc' := 4) (ls' := [gp_r (some 0), gp_n, gp_n, gp_n]) (st' := [gp_r (some 1), gp_r (some 1)]) (h' := cH1 L xs) rfl ?_
  refine gp_E.call (y' := 2816) (l0 := [gp_r (some 1), gp_n, gp_n]) (st' := [gp_r (some 1)]) rfl (gp_E.mono (ct15 (d := d) L xs) (fun r h q => ?_))
  obtain ⟨rfl, rfl⟩ := q
  show gp_E _ 4352 7 [gp_r (some 0), gp_n, gp_n, gp_n] [gp_r (some 1)] (cH169 L xs) _
  refine gp_E.stp 2 (pc' := 11) (ls' := [gp_r (some 0), gp_r (some 1), gp_n, gp_n]) (st' := [gp_r (some 74)]) (h' := cH170 L xs) rfl ?_
  refine gp_E.stp 1 (pc' := 12) (ls' := [gp_r (some 0), gp_r (some 1), gp_n, gp_n]) (st' := [gp_r (some 74), gp_r (some 74)]) (h' := cH170 L xs) rfl ?_
  refine gp_E.call (y' := 3072) (l0 := [gp_r (some 74), gp_n]) (st' := [gp_r (some 74)]) rfl (gp_E.mono (ct16 (d := d + 2) L xs) (fun r h q => ?_))
  obtain ⟨rfl, rfl⟩ := q
  show gp_E _ 4352 15 [gp_r (some 0), gp_r (some 1), gp_n, gp_n] [gp_r (some 74)] (cH263 L xs) _
  refine gp_E.stp 3 (pc' := 18) (ls' := [gp_r (some 0), gp_r (some 1), gp_r (some 74), gp_i 0]) (st' := []) (h' := cH263 L xs) rfl ?_
  exact k
