/-! THE MODEL: its object lies at cell 54, its arrays behind it -/
def mrf : List (Option Nat) := none :: some 55 :: none :: some 56 :: some 57 :: some 58 :: some 59 :: some 60 :: some 61 :: some 62 :: some 63 :: some 64 :: some 65 :: some 66 :: some 67 :: some 68 :: some 69 :: some 70 :: none :: none :: none :: some 71 :: none :: none :: none :: none :: some 72 :: some 73 :: some 74 :: some 75 :: none :: some 76 :: none :: some 77 :: some 78 :: some 79 :: some 80 :: some 81 :: some 82 :: none :: some 83 :: none :: some 84 :: none :: some 85 :: some 86 :: some 87 :: some 88 :: some 89 :: some 90 :: some 91 :: none :: some 92 :: some 93 :: some 94 :: some 95 :: none :: some 96 :: some 97 :: none :: none :: some 98 :: some 99 :: some 100 :: some 101 :: some 102 :: some 103 :: none :: some 104 :: some 105 :: some 106 :: none :: []
def mAr : List (Nat × Nat) := (0, 3000) :: (0, 6) :: (0, 30) :: (0, 240) :: (0, 24) :: (2, 24) :: (2, 6) :: (0, 6) :: (0, 30) :: (0, 240) :: (0, 24) :: (2, 24) :: (0, 3) :: (0, 90) :: (0, 360) :: (0, 7200) :: (0, 3000) :: (0, 900) :: (0, 900) :: (0, 900) :: (0, 30) :: (0, 30) :: (0, 24) :: (0, 24) :: (0, 24) :: (0, 24) :: (0, 24) :: (0, 24) :: (0, 3001) :: (0, 3000) :: (0, 200) :: (0, 200) :: (0, 200) :: (0, 200) :: (0, 200) :: (0, 200) :: (0, 200) :: (0, 600) :: (0, 600) :: (0, 600) :: (0, 600) :: (0, 3000) :: (0, 3000) :: (0, 200) :: (0, 200) :: (0, 200) :: (0, 200) :: (0, 200) :: (0, 120) :: (0, 3000) :: (0, 30) :: (0, 30) :: []
def isM (sh : Nat → Option Sh) : Prop := sh 54 = some (.inl (11, mrf)) ∧ ∀ (k : Nat) (q : Nat × Nat), mAr[k]? = some q → sh (55 + k) = some (.inr q)
theorem mr0 : mrf[0]? = some none := rfl
theorem mr1 : mrf[1]? = some (some 55) := rfl
theorem mr2 : mrf[2]? = some none := rfl
theorem mr3 : mrf[3]? = some (some 56) := rfl
theorem mr4 : mrf[4]? = some (some 57) := rfl
theorem mr5 : mrf[5]? = some (some 58) := rfl
theorem mr6 : mrf[6]? = some (some 59) := rfl
theorem mr7 : mrf[7]? = some (some 60) := rfl
theorem mr8 : mrf[8]? = some (some 61) := rfl
theorem mr9 : mrf[9]? = some (some 62) := rfl
theorem mr10 : mrf[10]? = some (some 63) := rfl
theorem mr11 : mrf[11]? = some (some 64) := rfl
theorem mr12 : mrf[12]? = some (some 65) := rfl
theorem mr13 : mrf[13]? = some (some 66) := rfl
theorem mr14 : mrf[14]? = some (some 67) := rfl
theorem mr15 : mrf[15]? = some (some 68) := rfl
theorem mr16 : mrf[16]? = some (some 69) := rfl
theorem mr17 : mrf[17]? = some (some 70) := rfl
theorem mr18 : mrf[18]? = some none := rfl
theorem mr19 : mrf[19]? = some none := rfl
theorem mr20 : mrf[20]? = some none := rfl
theorem mr21 : mrf[21]? = some (some 71) := rfl
theorem mr22 : mrf[22]? = some none := rfl
theorem mr23 : mrf[23]? = some none := rfl
theorem mr24 : mrf[24]? = some none := rfl
theorem mr25 : mrf[25]? = some none := rfl
theorem mr26 : mrf[26]? = some (some 72) := rfl
theorem mr27 : mrf[27]? = some (some 73) := rfl
theorem mr28 : mrf[28]? = some (some 74) := rfl
theorem mr29 : mrf[29]? = some (some 75) := rfl
theorem mr30 : mrf[30]? = some none := rfl
theorem mr31 : mrf[31]? = some (some 76) := rfl
theorem mr32 : mrf[32]? = some none := rfl
theorem mr33 : mrf[33]? = some (some 77) := rfl
theorem mr34 : mrf[34]? = some (some 78) := rfl
theorem mr35 : mrf[35]? = some (some 79) := rfl
theorem mr36 : mrf[36]? = some (some 80) := rfl
theorem mr37 : mrf[37]? = some (some 81) := rfl
theorem mr38 : mrf[38]? = some (some 82) := rfl
theorem mr39 : mrf[39]? = some none := rfl
theorem mr40 : mrf[40]? = some (some 83) := rfl
theorem mr41 : mrf[41]? = some none := rfl
theorem mr42 : mrf[42]? = some (some 84) := rfl
theorem mr43 : mrf[43]? = some none := rfl
theorem mr44 : mrf[44]? = some (some 85) := rfl
theorem mr45 : mrf[45]? = some (some 86) := rfl
theorem mr46 : mrf[46]? = some (some 87) := rfl
theorem mr47 : mrf[47]? = some (some 88) := rfl
theorem mr48 : mrf[48]? = some (some 89) := rfl
theorem mr49 : mrf[49]? = some (some 90) := rfl
theorem mr50 : mrf[50]? = some (some 91) := rfl
theorem mr51 : mrf[51]? = some none := rfl
theorem mr52 : mrf[52]? = some (some 92) := rfl
theorem mr53 : mrf[53]? = some (some 93) := rfl
theorem mr54 : mrf[54]? = some (some 94) := rfl
theorem mr55 : mrf[55]? = some (some 95) := rfl
theorem mr56 : mrf[56]? = some none := rfl
theorem mr57 : mrf[57]? = some (some 96) := rfl
theorem mr58 : mrf[58]? = some (some 97) := rfl
theorem mr59 : mrf[59]? = some none := rfl
theorem mr60 : mrf[60]? = some none := rfl
theorem mr61 : mrf[61]? = some (some 98) := rfl
theorem mr62 : mrf[62]? = some (some 99) := rfl
theorem mr63 : mrf[63]? = some (some 100) := rfl
theorem mr64 : mrf[64]? = some (some 101) := rfl
theorem mr65 : mrf[65]? = some (some 102) := rfl
theorem mr66 : mrf[66]? = some (some 103) := rfl
theorem mr67 : mrf[67]? = some none := rfl
theorem mr68 : mrf[68]? = some (some 104) := rfl
theorem mr69 : mrf[69]? = some (some 105) := rfl
theorem mr70 : mrf[70]? = some (some 106) := rfl
theorem mr71 : mrf[71]? = some none := rfl
theorem ma55 {sh : Nat → Option Sh} (h : isM sh) : sh 55 = some (.inr (0, 3000)) := h.2 0 (0, 3000) rfl
theorem ma56 {sh : Nat → Option Sh} (h : isM sh) : sh 56 = some (.inr (0, 6)) := h.2 1 (0, 6) rfl
theorem ma57 {sh : Nat → Option Sh} (h : isM sh) : sh 57 = some (.inr (0, 30)) := h.2 2 (0, 30) rfl
theorem ma58 {sh : Nat → Option Sh} (h : isM sh) : sh 58 = some (.inr (0, 240)) := h.2 3 (0, 240) rfl
theorem ma59 {sh : Nat → Option Sh} (h : isM sh) : sh 59 = some (.inr (0, 24)) := h.2 4 (0, 24) rfl
theorem ma60 {sh : Nat → Option Sh} (h : isM sh) : sh 60 = some (.inr (2, 24)) := h.2 5 (2, 24) rfl
theorem ma61 {sh : Nat → Option Sh} (h : isM sh) : sh 61 = some (.inr (2, 6)) := h.2 6 (2, 6) rfl
theorem ma62 {sh : Nat → Option Sh} (h : isM sh) : sh 62 = some (.inr (0, 6)) := h.2 7 (0, 6) rfl
theorem ma63 {sh : Nat → Option Sh} (h : isM sh) : sh 63 = some (.inr (0, 30)) := h.2 8 (0, 30) rfl
theorem ma64 {sh : Nat → Option Sh} (h : isM sh) : sh 64 = some (.inr (0, 240)) := h.2 9 (0, 240) rfl
theorem ma65 {sh : Nat → Option Sh} (h : isM sh) : sh 65 = some (.inr (0, 24)) := h.2 10 (0, 24) rfl
theorem ma66 {sh : Nat → Option Sh} (h : isM sh) : sh 66 = some (.inr (2, 24)) := h.2 11 (2, 24) rfl
theorem ma67 {sh : Nat → Option Sh} (h : isM sh) : sh 67 = some (.inr (0, 3)) := h.2 12 (0, 3) rfl
theorem ma68 {sh : Nat → Option Sh} (h : isM sh) : sh 68 = some (.inr (0, 90)) := h.2 13 (0, 90) rfl
theorem ma69 {sh : Nat → Option Sh} (h : isM sh) : sh 69 = some (.inr (0, 360)) := h.2 14 (0, 360) rfl
theorem ma70 {sh : Nat → Option Sh} (h : isM sh) : sh 70 = some (.inr (0, 7200)) := h.2 15 (0, 7200) rfl
theorem ma71 {sh : Nat → Option Sh} (h : isM sh) : sh 71 = some (.inr (0, 3000)) := h.2 16 (0, 3000) rfl
theorem ma72 {sh : Nat → Option Sh} (h : isM sh) : sh 72 = some (.inr (0, 900)) := h.2 17 (0, 900) rfl
theorem ma73 {sh : Nat → Option Sh} (h : isM sh) : sh 73 = some (.inr (0, 900)) := h.2 18 (0, 900) rfl
theorem ma74 {sh : Nat → Option Sh} (h : isM sh) : sh 74 = some (.inr (0, 900)) := h.2 19 (0, 900) rfl
theorem ma75 {sh : Nat → Option Sh} (h : isM sh) : sh 75 = some (.inr (0, 30)) := h.2 20 (0, 30) rfl
theorem ma76 {sh : Nat → Option Sh} (h : isM sh) : sh 76 = some (.inr (0, 30)) := h.2 21 (0, 30) rfl
theorem ma77 {sh : Nat → Option Sh} (h : isM sh) : sh 77 = some (.inr (0, 24)) := h.2 22 (0, 24) rfl
theorem ma78 {sh : Nat → Option Sh} (h : isM sh) : sh 78 = some (.inr (0, 24)) := h.2 23 (0, 24) rfl
theorem ma79 {sh : Nat → Option Sh} (h : isM sh) : sh 79 = some (.inr (0, 24)) := h.2 24 (0, 24) rfl
theorem ma80 {sh : Nat → Option Sh} (h : isM sh) : sh 80 = some (.inr (0, 24)) := h.2 25 (0, 24) rfl
theorem ma81 {sh : Nat → Option Sh} (h : isM sh) : sh 81 = some (.inr (0, 24)) := h.2 26 (0, 24) rfl
theorem ma82 {sh : Nat → Option Sh} (h : isM sh) : sh 82 = some (.inr (0, 24)) := h.2 27 (0, 24) rfl
theorem ma83 {sh : Nat → Option Sh} (h : isM sh) : sh 83 = some (.inr (0, 3001)) := h.2 28 (0, 3001) rfl
theorem ma84 {sh : Nat → Option Sh} (h : isM sh) : sh 84 = some (.inr (0, 3000)) := h.2 29 (0, 3000) rfl
theorem ma85 {sh : Nat → Option Sh} (h : isM sh) : sh 85 = some (.inr (0, 200)) := h.2 30 (0, 200) rfl
theorem ma86 {sh : Nat → Option Sh} (h : isM sh) : sh 86 = some (.inr (0, 200)) := h.2 31 (0, 200) rfl
theorem ma87 {sh : Nat → Option Sh} (h : isM sh) : sh 87 = some (.inr (0, 200)) := h.2 32 (0, 200) rfl
theorem ma88 {sh : Nat → Option Sh} (h : isM sh) : sh 88 = some (.inr (0, 200)) := h.2 33 (0, 200) rfl
theorem ma89 {sh : Nat → Option Sh} (h : isM sh) : sh 89 = some (.inr (0, 200)) := h.2 34 (0, 200) rfl
theorem ma90 {sh : Nat → Option Sh} (h : isM sh) : sh 90 = some (.inr (0, 200)) := h.2 35 (0, 200) rfl
theorem ma91 {sh : Nat → Option Sh} (h : isM sh) : sh 91 = some (.inr (0, 200)) := h.2 36 (0, 200) rfl
theorem ma92 {sh : Nat → Option Sh} (h : isM sh) : sh 92 = some (.inr (0, 600)) := h.2 37 (0, 600) rfl
theorem ma93 {sh : Nat → Option Sh} (h : isM sh) : sh 93 = some (.inr (0, 600)) := h.2 38 (0, 600) rfl
theorem ma94 {sh : Nat → Option Sh} (h : isM sh) : sh 94 = some (.inr (0, 600)) := h.2 39 (0, 600) rfl
theorem ma95 {sh : Nat → Option Sh} (h : isM sh) : sh 95 = some (.inr (0, 600)) := h.2 40 (0, 600) rfl
theorem ma96 {sh : Nat → Option Sh} (h : isM sh) : sh 96 = some (.inr (0, 3000)) := h.2 41 (0, 3000) rfl
theorem ma97 {sh : Nat → Option Sh} (h : isM sh) : sh 97 = some (.inr (0, 3000)) := h.2 42 (0, 3000) rfl
theorem ma98 {sh : Nat → Option Sh} (h : isM sh) : sh 98 = some (.inr (0, 200)) := h.2 43 (0, 200) rfl
theorem ma99 {sh : Nat → Option Sh} (h : isM sh) : sh 99 = some (.inr (0, 200)) := h.2 44 (0, 200) rfl
theorem ma100 {sh : Nat → Option Sh} (h : isM sh) : sh 100 = some (.inr (0, 200)) := h.2 45 (0, 200) rfl
theorem ma101 {sh : Nat → Option Sh} (h : isM sh) : sh 101 = some (.inr (0, 200)) := h.2 46 (0, 200) rfl
theorem ma102 {sh : Nat → Option Sh} (h : isM sh) : sh 102 = some (.inr (0, 200)) := h.2 47 (0, 200) rfl
theorem ma103 {sh : Nat → Option Sh} (h : isM sh) : sh 103 = some (.inr (0, 120)) := h.2 48 (0, 120) rfl
theorem ma104 {sh : Nat → Option Sh} (h : isM sh) : sh 104 = some (.inr (0, 3000)) := h.2 49 (0, 3000) rfl
theorem ma105 {sh : Nat → Option Sh} (h : isM sh) : sh 105 = some (.inr (0, 30)) := h.2 50 (0, 30) rfl
theorem ma106 {sh : Nat → Option Sh} (h : isM sh) : sh 106 = some (.inr (0, 30)) := h.2 51 (0, 30) rfl
/-- the bounds: each field, each array -/
def mT : Tys := (fun a j => if a = 54 then (match j with | 0 => (0, 3000) | 2 => (0, 6) | 18 => (0, 1) | 19 => (1, 20) | 20 => (0, 3000) | 22 => (0, 3000) | 23 => (0, 1) | 24 => (0, 1) | 25 => (0, 900) | 30 => (0, 900) | 32 => (0, 20) | 39 => (0, 3001) | 41 => (0, 3000) | 43 => (0, 200) | 51 => (0, 600) | 56 => (0, 3000) | 59 => ((-2), 4000) | 60 => (0, 1) | 67 => (0, 3000) | 71 => (0, 30) | _ => (-2147483648, 2147483647)) else (-2147483648, 2147483647), fun a => match a with | 56 => (0, 4) | 57 => (0, 8) | 59 => (0, 3) | 60 => (0, 1) | 61 => (0, 1) | 62 => (0, 4) | 63 => (0, 8) | 65 => (0, 3) | 66 => (0, 1) | 67 => (0, 30) | 68 => (0, 5) | 72 => ((-2), 899) | 73 => (0, 29) | 74 => (0, 901) | 75 => ((-2), 899) | 76 => (0, 900) | 77 => (0, 29) | 78 => (0, 899) | 79 => (0, 29) | 80 => (0, 4) | 81 => (0, 8) | 82 => ((-2), 899) | 85 => (0, 3000) | 86 => (0, 3000) | 87 => (0, 3000) | 88 => ((-2), 199) | 89 => (0, 201) | 90 => (0, 600) | 91 => (0, 600) | 92 => (0, 3000) | 93 => (0, 3000) | 94 => (0, 3000) | 95 => (0, 3000) | 97 => ((-2), 199) | 98 => ((-2), 5) | 99 => (0, 29) | 100 => ((-2), 359) | 101 => ((-2), 7) | 102 => (0, 99999) | 103 => (0, 1) | 105 => (0, 29) | 106 => (0, 29) | _ => (-2147483648, 2147483647))
theorem mI0 {G : xG} {sh : Nat → Option Sh} {J : St → List va_E → Prop} {S : St} {cs : List va_E} (h : Wd G sh mT J S cs) : iv 0 3000 (S.1 54 0) := h.2.1.1 54 0
theorem mI2 {G : xG} {sh : Nat → Option Sh} {J : St → List va_E → Prop} {S : St} {cs : List va_E} (h : Wd G sh mT J S cs) : iv 0 6 (S.1 54 2) := h.2.1.1 54 2
theorem mI18 {G : xG} {sh : Nat → Option Sh} {J : St → List va_E → Prop} {S : St} {cs : List va_E} (h : Wd G sh mT J S cs) : iv 0 1 (S.1 54 18) := h.2.1.1 54 18
theorem mI19 {G : xG} {sh : Nat → Option Sh} {J : St → List va_E → Prop} {S : St} {cs : List va_E} (h : Wd G sh mT J S cs) : iv 1 20 (S.1 54 19) := h.2.1.1 54 19
theorem mI20 {G : xG} {sh : Nat → Option Sh} {J : St → List va_E → Prop} {S : St} {cs : List va_E} (h : Wd G sh mT J S cs) : iv 0 3000 (S.1 54 20) := h.2.1.1 54 20
theorem mI22 {G : xG} {sh : Nat → Option Sh} {J : St → List va_E → Prop} {S : St} {cs : List va_E} (h : Wd G sh mT J S cs) : iv 0 3000 (S.1 54 22) := h.2.1.1 54 22
theorem mI23 {G : xG} {sh : Nat → Option Sh} {J : St → List va_E → Prop} {S : St} {cs : List va_E} (h : Wd G sh mT J S cs) : iv 0 1 (S.1 54 23) := h.2.1.1 54 23
theorem mI24 {G : xG} {sh : Nat → Option Sh} {J : St → List va_E → Prop} {S : St} {cs : List va_E} (h : Wd G sh mT J S cs) : iv 0 1 (S.1 54 24) := h.2.1.1 54 24
theorem mI25 {G : xG} {sh : Nat → Option Sh} {J : St → List va_E → Prop} {S : St} {cs : List va_E} (h : Wd G sh mT J S cs) : iv 0 900 (S.1 54 25) := h.2.1.1 54 25
theorem mI30 {G : xG} {sh : Nat → Option Sh} {J : St → List va_E → Prop} {S : St} {cs : List va_E} (h : Wd G sh mT J S cs) : iv 0 900 (S.1 54 30) := h.2.1.1 54 30
theorem mI32 {G : xG} {sh : Nat → Option Sh} {J : St → List va_E → Prop} {S : St} {cs : List va_E} (h : Wd G sh mT J S cs) : iv 0 20 (S.1 54 32) := h.2.1.1 54 32
theorem mI39 {G : xG} {sh : Nat → Option Sh} {J : St → List va_E → Prop} {S : St} {cs : List va_E} (h : Wd G sh mT J S cs) : iv 0 3001 (S.1 54 39) := h.2.1.1 54 39
theorem mI41 {G : xG} {sh : Nat → Option Sh} {J : St → List va_E → Prop} {S : St} {cs : List va_E} (h : Wd G sh mT J S cs) : iv 0 3000 (S.1 54 41) := h.2.1.1 54 41
theorem mI43 {G : xG} {sh : Nat → Option Sh} {J : St → List va_E → Prop} {S : St} {cs : List va_E} (h : Wd G sh mT J S cs) : iv 0 200 (S.1 54 43) := h.2.1.1 54 43
theorem mI51 {G : xG} {sh : Nat → Option Sh} {J : St → List va_E → Prop} {S : St} {cs : List va_E} (h : Wd G sh mT J S cs) : iv 0 600 (S.1 54 51) := h.2.1.1 54 51
theorem mI56 {G : xG} {sh : Nat → Option Sh} {J : St → List va_E → Prop} {S : St} {cs : List va_E} (h : Wd G sh mT J S cs) : iv 0 3000 (S.1 54 56) := h.2.1.1 54 56
theorem mI59 {G : xG} {sh : Nat → Option Sh} {J : St → List va_E → Prop} {S : St} {cs : List va_E} (h : Wd G sh mT J S cs) : iv (-2) 4000 (S.1 54 59) := h.2.1.1 54 59
theorem mI60 {G : xG} {sh : Nat → Option Sh} {J : St → List va_E → Prop} {S : St} {cs : List va_E} (h : Wd G sh mT J S cs) : iv 0 1 (S.1 54 60) := h.2.1.1 54 60
theorem mI67 {G : xG} {sh : Nat → Option Sh} {J : St → List va_E → Prop} {S : St} {cs : List va_E} (h : Wd G sh mT J S cs) : iv 0 3000 (S.1 54 67) := h.2.1.1 54 67
theorem mI71 {G : xG} {sh : Nat → Option Sh} {J : St → List va_E → Prop} {S : St} {cs : List va_E} (h : Wd G sh mT J S cs) : iv 0 30 (S.1 54 71) := h.2.1.1 54 71
theorem mA55 {G : xG} {sh : Nat → Option Sh} {J : St → List va_E → Prop} {S : St} {cs : List va_E} (h : Wd G sh mT J S cs) (i : Int) : iv (-2147483648) 2147483647 (S.2 55 i) := h.2.1.2 55 i
theorem mA56 {G : xG} {sh : Nat → Option Sh} {J : St → List va_E → Prop} {S : St} {cs : List va_E} (h : Wd G sh mT J S cs) (i : Int) : iv 0 4 (S.2 56 i) := h.2.1.2 56 i
theorem mA57 {G : xG} {sh : Nat → Option Sh} {J : St → List va_E → Prop} {S : St} {cs : List va_E} (h : Wd G sh mT J S cs) (i : Int) : iv 0 8 (S.2 57 i) := h.2.1.2 57 i
theorem mA58 {G : xG} {sh : Nat → Option Sh} {J : St → List va_E → Prop} {S : St} {cs : List va_E} (h : Wd G sh mT J S cs) (i : Int) : iv (-2147483648) 2147483647 (S.2 58 i) := h.2.1.2 58 i
theorem mA59 {G : xG} {sh : Nat → Option Sh} {J : St → List va_E → Prop} {S : St} {cs : List va_E} (h : Wd G sh mT J S cs) (i : Int) : iv 0 3 (S.2 59 i) := h.2.1.2 59 i
theorem mA60 {G : xG} {sh : Nat → Option Sh} {J : St → List va_E → Prop} {S : St} {cs : List va_E} (h : Wd G sh mT J S cs) (i : Int) : iv 0 1 (S.2 60 i) := h.2.1.2 60 i
theorem mA61 {G : xG} {sh : Nat → Option Sh} {J : St → List va_E → Prop} {S : St} {cs : List va_E} (h : Wd G sh mT J S cs) (i : Int) : iv 0 1 (S.2 61 i) := h.2.1.2 61 i
theorem mA62 {G : xG} {sh : Nat → Option Sh} {J : St → List va_E → Prop} {S : St} {cs : List va_E} (h : Wd G sh mT J S cs) (i : Int) : iv 0 4 (S.2 62 i) := h.2.1.2 62 i
theorem mA63 {G : xG} {sh : Nat → Option Sh} {J : St → List va_E → Prop} {S : St} {cs : List va_E} (h : Wd G sh mT J S cs) (i : Int) : iv 0 8 (S.2 63 i) := h.2.1.2 63 i
theorem mA64 {G : xG} {sh : Nat → Option Sh} {J : St → List va_E → Prop} {S : St} {cs : List va_E} (h : Wd G sh mT J S cs) (i : Int) : iv (-2147483648) 2147483647 (S.2 64 i) := h.2.1.2 64 i
theorem mA65 {G : xG} {sh : Nat → Option Sh} {J : St → List va_E → Prop} {S : St} {cs : List va_E} (h : Wd G sh mT J S cs) (i : Int) : iv 0 3 (S.2 65 i) := h.2.1.2 65 i
theorem mA66 {G : xG} {sh : Nat → Option Sh} {J : St → List va_E → Prop} {S : St} {cs : List va_E} (h : Wd G sh mT J S cs) (i : Int) : iv 0 1 (S.2 66 i) := h.2.1.2 66 i
theorem mA67 {G : xG} {sh : Nat → Option Sh} {J : St → List va_E → Prop} {S : St} {cs : List va_E} (h : Wd G sh mT J S cs) (i : Int) : iv 0 30 (S.2 67 i) := h.2.1.2 67 i
theorem mA68 {G : xG} {sh : Nat → Option Sh} {J : St → List va_E → Prop} {S : St} {cs : List va_E} (h : Wd G sh mT J S cs) (i : Int) : iv 0 5 (S.2 68 i) := h.2.1.2 68 i
theorem mA69 {G : xG} {sh : Nat → Option Sh} {J : St → List va_E → Prop} {S : St} {cs : List va_E} (h : Wd G sh mT J S cs) (i : Int) : iv (-2147483648) 2147483647 (S.2 69 i) := h.2.1.2 69 i
theorem mA70 {G : xG} {sh : Nat → Option Sh} {J : St → List va_E → Prop} {S : St} {cs : List va_E} (h : Wd G sh mT J S cs) (i : Int) : iv (-2147483648) 2147483647 (S.2 70 i) := h.2.1.2 70 i
theorem mA71 {G : xG} {sh : Nat → Option Sh} {J : St → List va_E → Prop} {S : St} {cs : List va_E} (h : Wd G sh mT J S cs) (i : Int) : iv (-2147483648) 2147483647 (S.2 71 i) := h.2.1.2 71 i
theorem mA72 {G : xG} {sh : Nat → Option Sh} {J : St → List va_E → Prop} {S : St} {cs : List va_E} (h : Wd G sh mT J S cs) (i : Int) : iv (-2) 899 (S.2 72 i) := h.2.1.2 72 i
theorem mA73 {G : xG} {sh : Nat → Option Sh} {J : St → List va_E → Prop} {S : St} {cs : List va_E} (h : Wd G sh mT J S cs) (i : Int) : iv 0 29 (S.2 73 i) := h.2.1.2 73 i
theorem mA74 {G : xG} {sh : Nat → Option Sh} {J : St → List va_E → Prop} {S : St} {cs : List va_E} (h : Wd G sh mT J S cs) (i : Int) : iv 0 901 (S.2 74 i) := h.2.1.2 74 i
theorem mA75 {G : xG} {sh : Nat → Option Sh} {J : St → List va_E → Prop} {S : St} {cs : List va_E} (h : Wd G sh mT J S cs) (i : Int) : iv (-2) 899 (S.2 75 i) := h.2.1.2 75 i
theorem mA76 {G : xG} {sh : Nat → Option Sh} {J : St → List va_E → Prop} {S : St} {cs : List va_E} (h : Wd G sh mT J S cs) (i : Int) : iv 0 900 (S.2 76 i) := h.2.1.2 76 i
theorem mA77 {G : xG} {sh : Nat → Option Sh} {J : St → List va_E → Prop} {S : St} {cs : List va_E} (h : Wd G sh mT J S cs) (i : Int) : iv 0 29 (S.2 77 i) := h.2.1.2 77 i
theorem mA78 {G : xG} {sh : Nat → Option Sh} {J : St → List va_E → Prop} {S : St} {cs : List va_E} (h : Wd G sh mT J S cs) (i : Int) : iv 0 899 (S.2 78 i) := h.2.1.2 78 i
theorem mA79 {G : xG} {sh : Nat → Option Sh} {J : St → List va_E → Prop} {S : St} {cs : List va_E} (h : Wd G sh mT J S cs) (i : Int) : iv 0 29 (S.2 79 i) := h.2.1.2 79 i
theorem mA80 {G : xG} {sh : Nat → Option Sh} {J : St → List va_E → Prop} {S : St} {cs : List va_E} (h : Wd G sh mT J S cs) (i : Int) : iv 0 4 (S.2 80 i) := h.2.1.2 80 i
theorem mA81 {G : xG} {sh : Nat → Option Sh} {J : St → List va_E → Prop} {S : St} {cs : List va_E} (h : Wd G sh mT J S cs) (i : Int) : iv 0 8 (S.2 81 i) := h.2.1.2 81 i
theorem mA82 {G : xG} {sh : Nat → Option Sh} {J : St → List va_E → Prop} {S : St} {cs : List va_E} (h : Wd G sh mT J S cs) (i : Int) : iv (-2) 899 (S.2 82 i) := h.2.1.2 82 i
theorem mA83 {G : xG} {sh : Nat → Option Sh} {J : St → List va_E → Prop} {S : St} {cs : List va_E} (h : Wd G sh mT J S cs) (i : Int) : iv (-2147483648) 2147483647 (S.2 83 i) := h.2.1.2 83 i
theorem mA84 {G : xG} {sh : Nat → Option Sh} {J : St → List va_E → Prop} {S : St} {cs : List va_E} (h : Wd G sh mT J S cs) (i : Int) : iv (-2147483648) 2147483647 (S.2 84 i) := h.2.1.2 84 i
theorem mA85 {G : xG} {sh : Nat → Option Sh} {J : St → List va_E → Prop} {S : St} {cs : List va_E} (h : Wd G sh mT J S cs) (i : Int) : iv 0 3000 (S.2 85 i) := h.2.1.2 85 i
theorem mA86 {G : xG} {sh : Nat → Option Sh} {J : St → List va_E → Prop} {S : St} {cs : List va_E} (h : Wd G sh mT J S cs) (i : Int) : iv 0 3000 (S.2 86 i) := h.2.1.2 86 i
theorem mA87 {G : xG} {sh : Nat → Option Sh} {J : St → List va_E → Prop} {S : St} {cs : List va_E} (h : Wd G sh mT J S cs) (i : Int) : iv 0 3000 (S.2 87 i) := h.2.1.2 87 i
theorem mA88 {G : xG} {sh : Nat → Option Sh} {J : St → List va_E → Prop} {S : St} {cs : List va_E} (h : Wd G sh mT J S cs) (i : Int) : iv (-2) 199 (S.2 88 i) := h.2.1.2 88 i
theorem mA89 {G : xG} {sh : Nat → Option Sh} {J : St → List va_E → Prop} {S : St} {cs : List va_E} (h : Wd G sh mT J S cs) (i : Int) : iv 0 201 (S.2 89 i) := h.2.1.2 89 i
theorem mA90 {G : xG} {sh : Nat → Option Sh} {J : St → List va_E → Prop} {S : St} {cs : List va_E} (h : Wd G sh mT J S cs) (i : Int) : iv 0 600 (S.2 90 i) := h.2.1.2 90 i
theorem mA91 {G : xG} {sh : Nat → Option Sh} {J : St → List va_E → Prop} {S : St} {cs : List va_E} (h : Wd G sh mT J S cs) (i : Int) : iv 0 600 (S.2 91 i) := h.2.1.2 91 i
theorem mA92 {G : xG} {sh : Nat → Option Sh} {J : St → List va_E → Prop} {S : St} {cs : List va_E} (h : Wd G sh mT J S cs) (i : Int) : iv 0 3000 (S.2 92 i) := h.2.1.2 92 i
theorem mA93 {G : xG} {sh : Nat → Option Sh} {J : St → List va_E → Prop} {S : St} {cs : List va_E} (h : Wd G sh mT J S cs) (i : Int) : iv 0 3000 (S.2 93 i) := h.2.1.2 93 i
theorem mA94 {G : xG} {sh : Nat → Option Sh} {J : St → List va_E → Prop} {S : St} {cs : List va_E} (h : Wd G sh mT J S cs) (i : Int) : iv 0 3000 (S.2 94 i) := h.2.1.2 94 i
theorem mA95 {G : xG} {sh : Nat → Option Sh} {J : St → List va_E → Prop} {S : St} {cs : List va_E} (h : Wd G sh mT J S cs) (i : Int) : iv 0 3000 (S.2 95 i) := h.2.1.2 95 i
theorem mA96 {G : xG} {sh : Nat → Option Sh} {J : St → List va_E → Prop} {S : St} {cs : List va_E} (h : Wd G sh mT J S cs) (i : Int) : iv (-2147483648) 2147483647 (S.2 96 i) := h.2.1.2 96 i
theorem mA97 {G : xG} {sh : Nat → Option Sh} {J : St → List va_E → Prop} {S : St} {cs : List va_E} (h : Wd G sh mT J S cs) (i : Int) : iv (-2) 199 (S.2 97 i) := h.2.1.2 97 i
theorem mA98 {G : xG} {sh : Nat → Option Sh} {J : St → List va_E → Prop} {S : St} {cs : List va_E} (h : Wd G sh mT J S cs) (i : Int) : iv (-2) 5 (S.2 98 i) := h.2.1.2 98 i
theorem mA99 {G : xG} {sh : Nat → Option Sh} {J : St → List va_E → Prop} {S : St} {cs : List va_E} (h : Wd G sh mT J S cs) (i : Int) : iv 0 29 (S.2 99 i) := h.2.1.2 99 i
theorem mA100 {G : xG} {sh : Nat → Option Sh} {J : St → List va_E → Prop} {S : St} {cs : List va_E} (h : Wd G sh mT J S cs) (i : Int) : iv (-2) 359 (S.2 100 i) := h.2.1.2 100 i
theorem mA101 {G : xG} {sh : Nat → Option Sh} {J : St → List va_E → Prop} {S : St} {cs : List va_E} (h : Wd G sh mT J S cs) (i : Int) : iv (-2) 7 (S.2 101 i) := h.2.1.2 101 i
theorem mA102 {G : xG} {sh : Nat → Option Sh} {J : St → List va_E → Prop} {S : St} {cs : List va_E} (h : Wd G sh mT J S cs) (i : Int) : iv 0 99999 (S.2 102 i) := h.2.1.2 102 i
theorem mA103 {G : xG} {sh : Nat → Option Sh} {J : St → List va_E → Prop} {S : St} {cs : List va_E} (h : Wd G sh mT J S cs) (i : Int) : iv 0 1 (S.2 103 i) := h.2.1.2 103 i
theorem mA104 {G : xG} {sh : Nat → Option Sh} {J : St → List va_E → Prop} {S : St} {cs : List va_E} (h : Wd G sh mT J S cs) (i : Int) : iv (-2147483648) 2147483647 (S.2 104 i) := h.2.1.2 104 i
theorem mA105 {G : xG} {sh : Nat → Option Sh} {J : St → List va_E → Prop} {S : St} {cs : List va_E} (h : Wd G sh mT J S cs) (i : Int) : iv 0 29 (S.2 105 i) := h.2.1.2 105 i
theorem mA106 {G : xG} {sh : Nat → Option Sh} {J : St → List va_E → Prop} {S : St} {cs : List va_E} (h : Wd G sh mT J S cs) (i : Int) : iv 0 29 (S.2 106 i) := h.2.1.2 106 i

