/-! the law up to its loop, by program (wip/whole/gen_init.py) -/
def ziC0 : Nat → Nat := fun i => if i = 0 then 103 else 200
def ziL0 (Ln : Nat) : Nat → Nat := fun i => if i = 0 then Ln else 0
def ziF0 : Nat → Nat → Nat := fun _ _ => 0
def ziI0 : Nat → Nat → Int32 := fun _ _ => 0
def ziA0 (xs : Nat → Int32) : Nat → Nat → Int32 := fun i => if i = 0 then xs else fun _ => 0
def ziC1 : Nat → Nat := va_up ziC0 1 6
def ziF1 : Nat → Nat → Nat := va_up ziF0 1 (fun _ => 0)
def ziI1 : Nat → Nat → Int32 := va_up ziI0 1 (fun _ => 0)
def ziC2 : Nat → Nat := va_up ziC1 2 102
def ziL1 (Ln : Nat) : Nat → Nat := va_up (ziL0 Ln) 2 4
def ziF2 : Nat → Nat → Nat := va_up ziF1 2 (fun _ => 0)
def ziC3 : Nat → Nat := va_up ziC2 3 4
def ziF3 : Nat → Nat → Nat := va_up ziF2 3 (fun _ => 0)
def ziI2 : Nat → Nat → Int32 := va_up ziI1 3 (fun _ => 0)
def ziC4 : Nat → Nat := va_up ziC3 4 100
def ziL2 (Ln : Nat) : Nat → Nat := va_up (ziL1 Ln) 4 60
def ziA1 (xs : Nat → Int32) : Nat → Nat → Int32 := va_up (ziA0 xs) 4 (fun _ => 0)
def ziF4 : Nat → Nat → Nat := va_up ziF3 3 (va_up (ziF3 3) 0 4)
def ziI3 : Nat → Nat → Int32 := va_up ziI2 3 (va_up (ziI2 3) 1 0)
def ziI4 : Nat → Nat → Int32 := va_up ziI3 3 (va_up (ziI3 3) 2 0)
def ziI5 : Nat → Nat → Int32 := va_up ziI4 3 (va_up (ziI4 3) 3 0)
def ziF5 : Nat → Nat → Nat := va_up ziF4 2 (va_up (ziF4 2) 0 3)
def ziC5 : Nat → Nat := va_up ziC4 5 4
def ziF6 : Nat → Nat → Nat := va_up ziF5 5 (fun _ => 0)
def ziI6 : Nat → Nat → Int32 := va_up ziI5 5 (fun _ => 0)
def ziC6 : Nat → Nat := va_up ziC5 6 100
def ziL3 (Ln : Nat) : Nat → Nat := va_up (ziL2 Ln) 6 60
def ziA2 (xs : Nat → Int32) : Nat → Nat → Int32 := va_up (ziA1 xs) 6 (fun _ => 0)
def ziF7 : Nat → Nat → Nat := va_up ziF6 5 (va_up (ziF6 5) 0 6)
def ziI7 : Nat → Nat → Int32 := va_up ziI6 5 (va_up (ziI6 5) 1 0)
def ziI8 : Nat → Nat → Int32 := va_up ziI7 5 (va_up (ziI7 5) 2 0)
def ziI9 : Nat → Nat → Int32 := va_up ziI8 5 (va_up (ziI8 5) 3 0)
def ziF8 : Nat → Nat → Nat := va_up ziF7 2 (va_up (ziF7 2) 1 5)
def ziC7 : Nat → Nat := va_up ziC6 7 4
def ziF9 : Nat → Nat → Nat := va_up ziF8 7 (fun _ => 0)
def ziI10 : Nat → Nat → Int32 := va_up ziI9 7 (fun _ => 0)
def ziC8 : Nat → Nat := va_up ziC7 8 100
def ziL4 (Ln : Nat) : Nat → Nat := va_up (ziL3 Ln) 8 60
def ziA3 (xs : Nat → Int32) : Nat → Nat → Int32 := va_up (ziA2 xs) 8 (fun _ => 0)
def ziF10 : Nat → Nat → Nat := va_up ziF9 7 (va_up (ziF9 7) 0 8)
def ziI11 : Nat → Nat → Int32 := va_up ziI10 7 (va_up (ziI10 7) 1 0)
def ziI12 : Nat → Nat → Int32 := va_up ziI11 7 (va_up (ziI11 7) 2 0)
def ziI13 : Nat → Nat → Int32 := va_up ziI12 7 (va_up (ziI12 7) 3 0)
def ziF11 : Nat → Nat → Nat := va_up ziF10 2 (va_up (ziF10 2) 2 7)
def ziC9 : Nat → Nat := va_up ziC8 9 4
def ziF12 : Nat → Nat → Nat := va_up ziF11 9 (fun _ => 0)
def ziI14 : Nat → Nat → Int32 := va_up ziI13 9 (fun _ => 0)
def ziC10 : Nat → Nat := va_up ziC9 10 100
def ziL5 (Ln : Nat) : Nat → Nat := va_up (ziL4 Ln) 10 60
def ziA4 (xs : Nat → Int32) : Nat → Nat → Int32 := va_up (ziA3 xs) 10 (fun _ => 0)
def ziF13 : Nat → Nat → Nat := va_up ziF12 9 (va_up (ziF12 9) 0 10)
def ziI15 : Nat → Nat → Int32 := va_up ziI14 9 (va_up (ziI14 9) 1 0)
def ziI16 : Nat → Nat → Int32 := va_up ziI15 9 (va_up (ziI15 9) 2 0)
def ziI17 : Nat → Nat → Int32 := va_up ziI16 9 (va_up (ziI16 9) 3 0)
def ziF14 : Nat → Nat → Nat := va_up ziF13 2 (va_up (ziF13 2) 3 9)
def ziC11 : Nat → Nat := va_up ziC10 11 0
def ziF15 : Nat → Nat → Nat := va_up ziF14 11 (fun _ => 0)
def ziI18 : Nat → Nat → Int32 := va_up ziI17 11 (fun _ => 0)
def ziI19 : Nat → Nat → Int32 := va_up ziI18 11 (va_up (ziI18 11) 0 0)
def ziI20 : Nat → Nat → Int32 := va_up ziI19 11 (va_up (ziI19 11) 1 0)
def ziI21 : Nat → Nat → Int32 := va_up ziI20 11 (va_up (ziI20 11) 2 0)
def ziI22 : Nat → Nat → Int32 := va_up ziI21 11 (va_up (ziI21 11) 3 0)
def ziC12 : Nat → Nat := va_up ziC11 12 100
def ziL6 (Ln : Nat) : Nat → Nat := va_up (ziL5 Ln) 12 6
def ziA5 (xs : Nat → Int32) : Nat → Nat → Int32 := va_up (ziA4 xs) 12 (fun _ => 0)
def ziF16 : Nat → Nat → Nat := va_up ziF15 11 (va_up (ziF15 11) 4 12)
def ziC13 : Nat → Nat := va_up ziC12 13 100
def ziL7 (Ln : Nat) : Nat → Nat := va_up (ziL6 Ln) 13 6
def ziA6 (xs : Nat → Int32) : Nat → Nat → Int32 := va_up (ziA5 xs) 13 (fun _ => 0)
def ziF17 : Nat → Nat → Nat := va_up ziF16 11 (va_up (ziF16 11) 5 13)
def ziC14 : Nat → Nat := va_up ziC13 14 100
def ziL8 (Ln : Nat) : Nat → Nat := va_up (ziL7 Ln) 14 6
def ziA7 (xs : Nat → Int32) : Nat → Nat → Int32 := va_up (ziA6 xs) 14 (fun _ => 0)
def ziF18 : Nat → Nat → Nat := va_up ziF17 11 (va_up (ziF17 11) 6 14)
def ziC15 : Nat → Nat := va_up ziC14 15 100
def ziL9 (Ln : Nat) : Nat → Nat := va_up (ziL8 Ln) 15 6
def ziA8 (xs : Nat → Int32) : Nat → Nat → Int32 := va_up (ziA7 xs) 15 (fun _ => 0)
def ziF19 : Nat → Nat → Nat := va_up ziF18 11 (va_up (ziF18 11) 7 15)
def ziC16 : Nat → Nat := va_up ziC15 16 100
def ziL10 (Ln : Nat) : Nat → Nat := va_up (ziL9 Ln) 16 60
def ziA9 (xs : Nat → Int32) : Nat → Nat → Int32 := va_up (ziA8 xs) 16 (fun _ => 0)
def ziF20 : Nat → Nat → Nat := va_up ziF19 11 (va_up (ziF19 11) 8 16)
def ziC17 : Nat → Nat := va_up ziC16 17 100
def ziL11 (Ln : Nat) : Nat → Nat := va_up (ziL10 Ln) 17 64
def ziA10 (xs : Nat → Int32) : Nat → Nat → Int32 := va_up (ziA9 xs) 17 (fun _ => 0)
def ziF21 : Nat → Nat → Nat := va_up ziF20 11 (va_up (ziF20 11) 9 17)
def ziF22 : Nat → Nat → Nat := va_up ziF21 1 (va_up (ziF21 1) 0 2)
def ziF23 : Nat → Nat → Nat := va_up ziF22 1 (va_up (ziF22 1) 1 11)
def ziC18 : Nat → Nat := va_up ziC17 18 2
def ziF24 : Nat → Nat → Nat := va_up ziF23 18 (fun _ => 0)
def ziI23 : Nat → Nat → Int32 := va_up ziI22 18 (fun _ => 0)
def ziC19 : Nat → Nat := va_up ziC18 19 100
def ziL12 (Ln : Nat) : Nat → Nat := va_up (ziL11 Ln) 19 6
def ziA11 (xs : Nat → Int32) : Nat → Nat → Int32 := va_up (ziA10 xs) 19 (fun _ => 0)
def ziF25 : Nat → Nat → Nat := va_up ziF24 18 (va_up (ziF24 18) 0 19)
def ziC20 : Nat → Nat := va_up ziC19 20 100
def ziL13 (Ln : Nat) : Nat → Nat := va_up (ziL12 Ln) 20 6
def ziA12 (xs : Nat → Int32) : Nat → Nat → Int32 := va_up (ziA11 xs) 20 (fun _ => 0)
def ziF26 : Nat → Nat → Nat := va_up ziF25 18 (va_up (ziF25 18) 1 20)
def ziC21 : Nat → Nat := va_up ziC20 21 100
def ziL14 (Ln : Nat) : Nat → Nat := va_up (ziL13 Ln) 21 6
def ziA13 (xs : Nat → Int32) : Nat → Nat → Int32 := va_up (ziA12 xs) 21 (fun _ => 0)
def ziF27 : Nat → Nat → Nat := va_up ziF26 18 (va_up (ziF26 18) 2 21)
def ziI24 : Nat → Nat → Int32 := va_up ziI23 18 (va_up (ziI23 18) 3 0)
def ziF28 : Nat → Nat → Nat := va_up ziF27 1 (va_up (ziF27 1) 2 18)
def ziC22 : Nat → Nat := va_up ziC21 22 3
def ziF29 : Nat → Nat → Nat := va_up ziF28 22 (fun _ => 0)
def ziI25 : Nat → Nat → Int32 := va_up ziI24 22 (fun _ => 0)
def ziC23 : Nat → Nat := va_up ziC22 23 100
def ziL15 (Ln : Nat) : Nat → Nat := va_up (ziL14 Ln) 23 6
def ziA14 (xs : Nat → Int32) : Nat → Nat → Int32 := va_up (ziA13 xs) 23 (fun _ => 0)
def ziF30 : Nat → Nat → Nat := va_up ziF29 22 (va_up (ziF29 22) 0 23)
def ziC24 : Nat → Nat := va_up ziC23 24 100
def ziL16 (Ln : Nat) : Nat → Nat := va_up (ziL15 Ln) 24 6
def ziA15 (xs : Nat → Int32) : Nat → Nat → Int32 := va_up (ziA14 xs) 24 (fun _ => 0)
def ziF31 : Nat → Nat → Nat := va_up ziF30 22 (va_up (ziF30 22) 1 24)
def ziC25 : Nat → Nat := va_up ziC24 25 101
def ziL17 (Ln : Nat) : Nat → Nat := va_up (ziL16 Ln) 25 6
def ziA16 (xs : Nat → Int32) : Nat → Nat → Int32 := va_up (ziA15 xs) 25 (fun _ => 0)
def ziF32 : Nat → Nat → Nat := va_up ziF31 22 (va_up (ziF31 22) 2 25)
def ziI26 : Nat → Nat → Int32 := va_up ziI25 22 (va_up (ziI25 22) 3 0)
def ziF33 : Nat → Nat → Nat := va_up ziF32 1 (va_up (ziF32 1) 3 22)
def ziC26 : Nat → Nat := va_up ziC25 26 1
def ziF34 : Nat → Nat → Nat := va_up ziF33 26 (fun _ => 0)
def ziI27 : Nat → Nat → Int32 := va_up ziI26 26 (fun _ => 0)
def ziC27 : Nat → Nat := va_up ziC26 27 100
def ziL18 (Ln : Nat) : Nat → Nat := va_up (ziL17 Ln) 27 64
def ziA17 (xs : Nat → Int32) : Nat → Nat → Int32 := va_up (ziA16 xs) 27 (fun _ => 0)
def ziF35 : Nat → Nat → Nat := va_up ziF34 26 (va_up (ziF34 26) 1 27)
def ziF36 : Nat → Nat → Nat := va_up ziF35 26 (va_up (ziF35 26) 0 11)
def ziF37 : Nat → Nat → Nat := va_up ziF36 1 (va_up (ziF36 1) 4 26)
def ziC28 : Nat → Nat := va_up ziC27 28 5
def ziF38 : Nat → Nat → Nat := va_up ziF37 28 (fun _ => 0)
def ziI28 : Nat → Nat → Int32 := va_up ziI27 28 (fun _ => 0)
def ziC29 : Nat → Nat := va_up ziC28 29 100
def ziL19 (Ln : Nat) : Nat → Nat := va_up (ziL18 Ln) 29 6
def ziA18 (xs : Nat → Int32) : Nat → Nat → Int32 := va_up (ziA17 xs) 29 (fun _ => 0)
def ziF39 : Nat → Nat → Nat := va_up ziF38 28 (va_up (ziF38 28) 0 29)
def ziC30 : Nat → Nat := va_up ziC29 30 100
def ziL20 (Ln : Nat) : Nat → Nat := va_up (ziL19 Ln) 30 60
def ziA19 (xs : Nat → Int32) : Nat → Nat → Int32 := va_up (ziA18 xs) 30 (fun _ => 0)
def ziF40 : Nat → Nat → Nat := va_up ziF39 28 (va_up (ziF39 28) 1 30)
def ziC31 : Nat → Nat := va_up ziC30 31 100
def ziL21 (Ln : Nat) : Nat → Nat := va_up (ziL20 Ln) 31 60
def ziA20 (xs : Nat → Int32) : Nat → Nat → Int32 := va_up (ziA19 xs) 31 (fun _ => 0)
def ziF41 : Nat → Nat → Nat := va_up ziF40 28 (va_up (ziF40 28) 2 31)
def ziC32 : Nat → Nat := va_up ziC31 32 100
def ziL22 (Ln : Nat) : Nat → Nat := va_up (ziL21 Ln) 32 60
def ziA21 (xs : Nat → Int32) : Nat → Nat → Int32 := va_up (ziA20 xs) 32 (fun _ => 0)
def ziF42 : Nat → Nat → Nat := va_up ziF41 28 (va_up (ziF41 28) 3 32)
def ziC33 : Nat → Nat := va_up ziC32 33 100
def ziL23 (Ln : Nat) : Nat → Nat := va_up (ziL22 Ln) 33 6
def ziA22 (xs : Nat → Int32) : Nat → Nat → Int32 := va_up (ziA21 xs) 33 (fun _ => 0)
def ziF43 : Nat → Nat → Nat := va_up ziF42 28 (va_up (ziF42 28) 5 33)
def ziC34 : Nat → Nat := va_up ziC33 34 100
def ziL24 (Ln : Nat) : Nat → Nat := va_up (ziL23 Ln) 34 6
def ziA23 (xs : Nat → Int32) : Nat → Nat → Int32 := va_up (ziA22 xs) 34 (fun _ => 0)
def ziF44 : Nat → Nat → Nat := va_up ziF43 28 (va_up (ziF43 28) 6 34)
def ziF45 : Nat → Nat → Nat := va_up ziF44 28 (va_up (ziF44 28) 4 11)
def ziF46 : Nat → Nat → Nat := va_up ziF45 1 (va_up (ziF45 1) 5 28)
def ziC35 : Nat → Nat := va_up ziC34 35 5
def ziF47 : Nat → Nat → Nat := va_up ziF46 35 (fun _ => 0)
def ziI29 : Nat → Nat → Int32 := va_up ziI28 35 (fun _ => 0)
def ziC36 : Nat → Nat := va_up ziC35 36 100
def ziL25 (Ln : Nat) : Nat → Nat := va_up (ziL24 Ln) 36 6
def ziA24 (xs : Nat → Int32) : Nat → Nat → Int32 := va_up (ziA23 xs) 36 (fun _ => 0)
def ziF48 : Nat → Nat → Nat := va_up ziF47 35 (va_up (ziF47 35) 0 36)
def ziC37 : Nat → Nat := va_up ziC36 37 100
def ziL26 (Ln : Nat) : Nat → Nat := va_up (ziL25 Ln) 37 60
def ziA25 (xs : Nat → Int32) : Nat → Nat → Int32 := va_up (ziA24 xs) 37 (fun _ => 0)
def ziF49 : Nat → Nat → Nat := va_up ziF48 35 (va_up (ziF48 35) 1 37)
def ziC38 : Nat → Nat := va_up ziC37 38 100
def ziL27 (Ln : Nat) : Nat → Nat := va_up (ziL26 Ln) 38 60
def ziA26 (xs : Nat → Int32) : Nat → Nat → Int32 := va_up (ziA25 xs) 38 (fun _ => 0)
def ziF50 : Nat → Nat → Nat := va_up ziF49 35 (va_up (ziF49 35) 2 38)
def ziC39 : Nat → Nat := va_up ziC38 39 100
def ziL28 (Ln : Nat) : Nat → Nat := va_up (ziL27 Ln) 39 60
def ziA27 (xs : Nat → Int32) : Nat → Nat → Int32 := va_up (ziA26 xs) 39 (fun _ => 0)
def ziF51 : Nat → Nat → Nat := va_up ziF50 35 (va_up (ziF50 35) 3 39)
def ziC40 : Nat → Nat := va_up ziC39 40 100
def ziL29 (Ln : Nat) : Nat → Nat := va_up (ziL28 Ln) 40 6
def ziA28 (xs : Nat → Int32) : Nat → Nat → Int32 := va_up (ziA27 xs) 40 (fun _ => 0)
def ziF52 : Nat → Nat → Nat := va_up ziF51 35 (va_up (ziF51 35) 5 40)
def ziC41 : Nat → Nat := va_up ziC40 41 100
def ziL30 (Ln : Nat) : Nat → Nat := va_up (ziL29 Ln) 41 6
def ziA29 (xs : Nat → Int32) : Nat → Nat → Int32 := va_up (ziA28 xs) 41 (fun _ => 0)
def ziF53 : Nat → Nat → Nat := va_up ziF52 35 (va_up (ziF52 35) 6 41)
def ziF54 : Nat → Nat → Nat := va_up ziF53 35 (va_up (ziF53 35) 4 11)
def ziF55 : Nat → Nat → Nat := va_up ziF54 1 (va_up (ziF54 1) 6 35)
def ziC42 : Nat → Nat := va_up ziC41 42 100
def ziL31 (Ln : Nat) : Nat → Nat := va_up (ziL30 Ln) 42 6
def ziA30 (xs : Nat → Int32) : Nat → Nat → Int32 := va_up (ziA29 xs) 42 (fun _ => 0)
def ziF56 : Nat → Nat → Nat := va_up ziF55 1 (va_up (ziF55 1) 7 42)
def ziC43 : Nat → Nat := va_up ziC42 43 100
def ziL32 (Ln : Nat) : Nat → Nat := va_up (ziL31 Ln) 43 6
def ziA31 (xs : Nat → Int32) : Nat → Nat → Int32 := va_up (ziA30 xs) 43 (fun _ => 0)
def ziF57 : Nat → Nat → Nat := va_up ziF56 1 (va_up (ziF56 1) 8 43)
def ziI30 : Nat → Nat → Int32 := va_up ziI29 1 (va_up (ziI29 1) 9 0)
def ziI31 : Nat → Nat → Int32 := va_up ziI30 1 (va_up (ziI30 1) 10 0)
def ziI32 : Nat → Nat → Int32 := va_up ziI31 1 (va_up (ziI31 1) 11 0)
def ziC44 : Nat → Nat := va_up ziC43 44 7
def ziF58 : Nat → Nat → Nat := va_up ziF57 44 (fun _ => 0)
def ziI33 : Nat → Nat → Int32 := va_up ziI32 44 (fun _ => 0)
def ziC45 : Nat → Nat := va_up ziC44 45 100
def ziL33 (Ln : Nat) : Nat → Nat := va_up (ziL32 Ln) 45 6
def ziA32 (xs : Nat → Int32) : Nat → Nat → Int32 := va_up (ziA31 xs) 45 (fun _ => 0)
def ziF59 : Nat → Nat → Nat := va_up ziF58 44 (va_up (ziF58 44) 5 45)
def ziC46 : Nat → Nat := va_up ziC45 46 100
def ziL34 (Ln : Nat) : Nat → Nat := va_up (ziL33 Ln) 46 6
def ziA33 (xs : Nat → Int32) : Nat → Nat → Int32 := va_up (ziA32 xs) 46 (fun _ => 0)
def ziF60 : Nat → Nat → Nat := va_up ziF59 44 (va_up (ziF59 44) 6 46)
def ziC47 : Nat → Nat := va_up ziC46 47 100
def ziL35 (Ln : Nat) : Nat → Nat := va_up (ziL34 Ln) 47 6
def ziA34 (xs : Nat → Int32) : Nat → Nat → Int32 := va_up (ziA33 xs) 47 (fun _ => 0)
def ziF61 : Nat → Nat → Nat := va_up ziF60 44 (va_up (ziF60 44) 7 47)
def ziC48 : Nat → Nat := va_up ziC47 48 100
def ziL36 (Ln : Nat) : Nat → Nat := va_up (ziL35 Ln) 48 6
def ziA35 (xs : Nat → Int32) : Nat → Nat → Int32 := va_up (ziA34 xs) 48 (fun _ => 0)
def ziF62 : Nat → Nat → Nat := va_up ziF61 44 (va_up (ziF61 44) 8 48)
def ziC49 : Nat → Nat := va_up ziC48 49 100
def ziL37 (Ln : Nat) : Nat → Nat := va_up (ziL36 Ln) 49 6
def ziA36 (xs : Nat → Int32) : Nat → Nat → Int32 := va_up (ziA35 xs) 49 (fun _ => 0)
def ziF63 : Nat → Nat → Nat := va_up ziF62 44 (va_up (ziF62 44) 9 49)
def ziC50 : Nat → Nat := va_up ziC49 50 100
def ziL38 (Ln : Nat) : Nat → Nat := va_up (ziL37 Ln) 50 6
def ziA37 (xs : Nat → Int32) : Nat → Nat → Int32 := va_up (ziA36 xs) 50 (fun _ => 0)
def ziF64 : Nat → Nat → Nat := va_up ziF63 44 (va_up (ziF63 44) 16 50)
def ziC51 : Nat → Nat := va_up ziC50 51 100
def ziL39 (Ln : Nat) : Nat → Nat := va_up (ziL38 Ln) 51 6
def ziA38 (xs : Nat → Int32) : Nat → Nat → Int32 := va_up (ziA37 xs) 51 (fun _ => 0)
def ziF65 : Nat → Nat → Nat := va_up ziF64 44 (va_up (ziF64 44) 17 51)
def ziC52 : Nat → Nat := va_up ziC51 52 100
def ziL40 (Ln : Nat) : Nat → Nat := va_up (ziL39 Ln) 52 6
def ziA39 (xs : Nat → Int32) : Nat → Nat → Int32 := va_up (ziA38 xs) 52 (fun _ => 0)
def ziF66 : Nat → Nat → Nat := va_up ziF65 44 (va_up (ziF65 44) 18 52)
def ziC53 : Nat → Nat := va_up ziC52 53 100
def ziL41 (Ln : Nat) : Nat → Nat := va_up (ziL40 Ln) 53 6
def ziA40 (xs : Nat → Int32) : Nat → Nat → Int32 := va_up (ziA39 xs) 53 (fun _ => 0)
def ziF67 : Nat → Nat → Nat := va_up ziF66 44 (va_up (ziF66 44) 19 53)
def ziC54 : Nat → Nat := va_up ziC53 54 100
def ziL42 (Ln : Nat) : Nat → Nat := va_up (ziL41 Ln) 54 6
def ziA41 (xs : Nat → Int32) : Nat → Nat → Int32 := va_up (ziA40 xs) 54 (fun _ => 0)
def ziF68 : Nat → Nat → Nat := va_up ziF67 44 (va_up (ziF67 44) 21 54)
def ziC55 : Nat → Nat := va_up ziC54 55 100
def ziL43 (Ln : Nat) : Nat → Nat := va_up (ziL42 Ln) 55 6
def ziA42 (xs : Nat → Int32) : Nat → Nat → Int32 := va_up (ziA41 xs) 55 (fun _ => 0)
def ziF69 : Nat → Nat → Nat := va_up ziF68 44 (va_up (ziF68 44) 22 55)
def ziC56 : Nat → Nat := va_up ziC55 56 100
def ziL44 (Ln : Nat) : Nat → Nat := va_up (ziL43 Ln) 56 6
def ziA43 (xs : Nat → Int32) : Nat → Nat → Int32 := va_up (ziA42 xs) 56 (fun _ => 0)
def ziF70 : Nat → Nat → Nat := va_up ziF69 44 (va_up (ziF69 44) 23 56)
def ziC57 : Nat → Nat := va_up ziC56 57 100
def ziL45 (Ln : Nat) : Nat → Nat := va_up (ziL44 Ln) 57 6
def ziA44 (xs : Nat → Int32) : Nat → Nat → Int32 := va_up (ziA43 xs) 57 (fun _ => 0)
def ziF71 : Nat → Nat → Nat := va_up ziF70 44 (va_up (ziF70 44) 24 57)
def ziC58 : Nat → Nat := va_up ziC57 58 100
def ziL46 (Ln : Nat) : Nat → Nat := va_up (ziL45 Ln) 58 6
def ziA45 (xs : Nat → Int32) : Nat → Nat → Int32 := va_up (ziA44 xs) 58 (fun _ => 0)
def ziF72 : Nat → Nat → Nat := va_up ziF71 44 (va_up (ziF71 44) 25 58)
def ziC59 : Nat → Nat := va_up ziC58 59 100
def ziL47 (Ln : Nat) : Nat → Nat := va_up (ziL46 Ln) 59 64
def ziA46 (xs : Nat → Int32) : Nat → Nat → Int32 := va_up (ziA45 xs) 59 (fun _ => 0)
def ziF73 : Nat → Nat → Nat := va_up ziF72 44 (va_up (ziF72 44) 28 59)
def ziC60 : Nat → Nat := va_up ziC59 60 100
def ziL48 (Ln : Nat) : Nat → Nat := va_up (ziL47 Ln) 60 64
def ziA47 (xs : Nat → Int32) : Nat → Nat → Int32 := va_up (ziA46 xs) 60 (fun _ => 0)
def ziF74 : Nat → Nat → Nat := va_up ziF73 44 (va_up (ziF73 44) 29 60)
def ziC61 : Nat → Nat := va_up ziC60 61 101
def ziL49 (Ln : Nat) : Nat → Nat := va_up (ziL48 Ln) 61 64
def ziA48 (xs : Nat → Int32) : Nat → Nat → Int32 := va_up (ziA47 xs) 61 (fun _ => 0)
def ziF75 : Nat → Nat → Nat := va_up ziF74 44 (va_up (ziF74 44) 30 61)
def ziC62 : Nat → Nat := va_up ziC61 62 100
def ziL50 (Ln : Nat) : Nat → Nat := va_up (ziL49 Ln) 62 6
def ziA49 (xs : Nat → Int32) : Nat → Nat → Int32 := va_up (ziA48 xs) 62 (fun _ => 0)
def ziF76 : Nat → Nat → Nat := va_up ziF75 44 (va_up (ziF75 44) 32 62)
def ziC63 : Nat → Nat := va_up ziC62 63 100
def ziL51 (Ln : Nat) : Nat → Nat := va_up (ziL50 Ln) 63 6
def ziA50 (xs : Nat → Int32) : Nat → Nat → Int32 := va_up (ziA49 xs) 63 (fun _ => 0)
def ziF77 : Nat → Nat → Nat := va_up ziF76 44 (va_up (ziF76 44) 33 63)
def ziC64 : Nat → Nat := va_up ziC63 64 101
def ziL52 (Ln : Nat) : Nat → Nat := va_up (ziL51 Ln) 64 6
def ziA51 (xs : Nat → Int32) : Nat → Nat → Int32 := va_up (ziA50 xs) 64 (fun _ => 0)
def ziF78 : Nat → Nat → Nat := va_up ziF77 44 (va_up (ziF77 44) 34 64)
def ziC65 : Nat → Nat := va_up ziC64 65 100
def ziL53 (Ln : Nat) : Nat → Nat := va_up (ziL52 Ln) 65 4
def ziA52 (xs : Nat → Int32) : Nat → Nat → Int32 := va_up (ziA51 xs) 65 (fun _ => 0)
def ziF79 : Nat → Nat → Nat := va_up ziF78 44 (va_up (ziF78 44) 35 65)
def ziC66 : Nat → Nat := va_up ziC65 66 100
def ziL54 (Ln : Nat) : Nat → Nat := va_up (ziL53 Ln) 66 4
def ziA53 (xs : Nat → Int32) : Nat → Nat → Int32 := va_up (ziA52 xs) 66 (fun _ => 0)
def ziF80 : Nat → Nat → Nat := va_up ziF79 44 (va_up (ziF79 44) 36 66)
def ziC67 : Nat → Nat := va_up ziC66 67 100
def ziL55 (Ln : Nat) : Nat → Nat := va_up (ziL54 Ln) 67 240
def ziA54 (xs : Nat → Int32) : Nat → Nat → Int32 := va_up (ziA53 xs) 67 (fun _ => 0)
def ziF81 : Nat → Nat → Nat := va_up ziF80 44 (va_up (ziF80 44) 37 67)
def ziC68 : Nat → Nat := va_up ziC67 68 100
def ziL56 (Ln : Nat) : Nat → Nat := va_up (ziL55 Ln) 68 60
def ziA55 (xs : Nat → Int32) : Nat → Nat → Int32 := va_up (ziA54 xs) 68 (fun _ => 0)
def ziF82 : Nat → Nat → Nat := va_up ziF81 44 (va_up (ziF81 44) 38 68)
def ziA56 (xs : Nat → Int32) : Nat → Nat → Int32 := va_up (ziA55 xs) 65 (upd ((ziA55 xs) 65) 0 (-1))
def ziA57 (xs : Nat → Int32) : Nat → Nat → Int32 := va_up (ziA56 xs) 65 (upd ((ziA56 xs) 65) 1 (-1))
def ziA58 (xs : Nat → Int32) : Nat → Nat → Int32 := va_up (ziA57 xs) 65 (upd ((ziA57 xs) 65) 2 (-1))
def ziA59 (xs : Nat → Int32) : Nat → Nat → Int32 := va_up (ziA58 xs) 65 (upd ((ziA58 xs) 65) 3 (-1))
set_option maxRecDepth 100000 in
theorem zin_1_X4_init_p0 (Ln : Nat) (xs : Nat → Int32) {r : zRs} (hk : zEv 21 9 1 60 [some (.ref 3)] [.ref 4, .ref 3] (5, ziC4, (ziL2 Ln), ziF3, ziI2, (ziA1 xs)) r) : zEv 21 0 0 0 [some (.ref 3)] [] (4, ziC3, (ziL1 Ln), ziF3, ziI2, (ziA0 xs)) r :=
  zEv.lift 5 (fun _ => by with_unfolding_all rfl) hk
set_option maxRecDepth 100000 in
theorem zin_1_X4_init_p1 (Ln : Nat) (xs : Nat → Int32) {r : zRs} (hk : zEv 21 12 1 60 [some (.ref 3)] [] (5, ziC4, (ziL2 Ln), ziF4, ziI2, (ziA1 xs)) r) : zEv 21 9 1 60 [some (.ref 3)] [.ref 4, .ref 3] (5, ziC4, (ziL2 Ln), ziF3, ziI2, (ziA1 xs)) r :=
  zEv.lift 1 (fun _ => by with_unfolding_all rfl) hk
set_option maxRecDepth 100000 in
theorem zin_1_X4_init_p2 (Ln : Nat) (xs : Nat → Int32) {r : zRs} (hk : zEv 21 17 1 60 [some (.ref 3)] [] (5, ziC4, (ziL2 Ln), ziF4, ziI3, (ziA1 xs)) r) : zEv 21 12 1 60 [some (.ref 3)] [] (5, ziC4, (ziL2 Ln), ziF4, ziI2, (ziA1 xs)) r :=
  zEv.lift 3 (fun _ => by with_unfolding_all rfl) hk
set_option maxRecDepth 100000 in
theorem zin_1_X4_init_p3 (Ln : Nat) (xs : Nat → Int32) {r : zRs} (hk : zEv 21 22 1 60 [some (.ref 3)] [] (5, ziC4, (ziL2 Ln), ziF4, ziI4, (ziA1 xs)) r) : zEv 21 17 1 60 [some (.ref 3)] [] (5, ziC4, (ziL2 Ln), ziF4, ziI3, (ziA1 xs)) r :=
  zEv.lift 3 (fun _ => by with_unfolding_all rfl) hk
set_option maxRecDepth 100000 in
theorem zin_1_X4_init_p4 (Ln : Nat) (xs : Nat → Int32) {r : zRs} (hk : zEv 21 27 1 60 [some (.ref 3)] [] (5, ziC4, (ziL2 Ln), ziF4, ziI5, (ziA1 xs)) r) : zEv 21 22 1 60 [some (.ref 3)] [] (5, ziC4, (ziL2 Ln), ziF4, ziI4, (ziA1 xs)) r :=
  zEv.lift 3 (fun _ => by with_unfolding_all rfl) hk
set_option maxRecDepth 100000 in
theorem zin_1_X4_init (Ln : Nat) (xs : Nat → Int32) : zEv 21 0 0 0 [some (.ref 3)] [] (4, ziC3, (ziL1 Ln), ziF3, ziI2, (ziA0 xs)) (none, (5, ziC4, (ziL2 Ln), ziF4, ziI5, (ziA1 xs))) := (zin_1_X4_init_p0 Ln xs (zin_1_X4_init_p1 Ln xs (zin_1_X4_init_p2 Ln xs (zin_1_X4_init_p3 Ln xs (zin_1_X4_init_p4 Ln xs (zEv.ret rfl))))))
set_option maxRecDepth 100000 in
theorem zin_2_X4_init_p0 (Ln : Nat) (xs : Nat → Int32) {r : zRs} (hk : zEv 21 9 1 60 [some (.ref 5)] [.ref 6, .ref 5] (7, ziC6, (ziL3 Ln), ziF6, ziI6, (ziA2 xs)) r) : zEv 21 0 0 0 [some (.ref 5)] [] (6, ziC5, (ziL2 Ln), ziF6, ziI6, (ziA1 xs)) r :=
  zEv.lift 5 (fun _ => by with_unfolding_all rfl) hk
set_option maxRecDepth 100000 in
theorem zin_2_X4_init_p1 (Ln : Nat) (xs : Nat → Int32) {r : zRs} (hk : zEv 21 12 1 60 [some (.ref 5)] [] (7, ziC6, (ziL3 Ln), ziF7, ziI6, (ziA2 xs)) r) : zEv 21 9 1 60 [some (.ref 5)] [.ref 6, .ref 5] (7, ziC6, (ziL3 Ln), ziF6, ziI6, (ziA2 xs)) r :=
  zEv.lift 1 (fun _ => by with_unfolding_all rfl) hk
set_option maxRecDepth 100000 in
theorem zin_2_X4_init_p2 (Ln : Nat) (xs : Nat → Int32) {r : zRs} (hk : zEv 21 17 1 60 [some (.ref 5)] [] (7, ziC6, (ziL3 Ln), ziF7, ziI7, (ziA2 xs)) r) : zEv 21 12 1 60 [some (.ref 5)] [] (7, ziC6, (ziL3 Ln), ziF7, ziI6, (ziA2 xs)) r :=
  zEv.lift 3 (fun _ => by with_unfolding_all rfl) hk
set_option maxRecDepth 100000 in
theorem zin_2_X4_init_p3 (Ln : Nat) (xs : Nat → Int32) {r : zRs} (hk : zEv 21 22 1 60 [some (.ref 5)] [] (7, ziC6, (ziL3 Ln), ziF7, ziI8, (ziA2 xs)) r) : zEv 21 17 1 60 [some (.ref 5)] [] (7, ziC6, (ziL3 Ln), ziF7, ziI7, (ziA2 xs)) r :=
  zEv.lift 3 (fun _ => by with_unfolding_all rfl) hk
set_option maxRecDepth 100000 in
theorem zin_2_X4_init_p4 (Ln : Nat) (xs : Nat → Int32) {r : zRs} (hk : zEv 21 27 1 60 [some (.ref 5)] [] (7, ziC6, (ziL3 Ln), ziF7, ziI9, (ziA2 xs)) r) : zEv 21 22 1 60 [some (.ref 5)] [] (7, ziC6, (ziL3 Ln), ziF7, ziI8, (ziA2 xs)) r :=
  zEv.lift 3 (fun _ => by with_unfolding_all rfl) hk
set_option maxRecDepth 100000 in
theorem zin_2_X4_init (Ln : Nat) (xs : Nat → Int32) : zEv 21 0 0 0 [some (.ref 5)] [] (6, ziC5, (ziL2 Ln), ziF6, ziI6, (ziA1 xs)) (none, (7, ziC6, (ziL3 Ln), ziF7, ziI9, (ziA2 xs))) := (zin_2_X4_init_p0 Ln xs (zin_2_X4_init_p1 Ln xs (zin_2_X4_init_p2 Ln xs (zin_2_X4_init_p3 Ln xs (zin_2_X4_init_p4 Ln xs (zEv.ret rfl))))))
set_option maxRecDepth 100000 in
theorem zin_3_X4_init_p0 (Ln : Nat) (xs : Nat → Int32) {r : zRs} (hk : zEv 21 9 1 60 [some (.ref 7)] [.ref 8, .ref 7] (9, ziC8, (ziL4 Ln), ziF9, ziI10, (ziA3 xs)) r) : zEv 21 0 0 0 [some (.ref 7)] [] (8, ziC7, (ziL3 Ln), ziF9, ziI10, (ziA2 xs)) r :=
  zEv.lift 5 (fun _ => by with_unfolding_all rfl) hk
set_option maxRecDepth 100000 in
theorem zin_3_X4_init_p1 (Ln : Nat) (xs : Nat → Int32) {r : zRs} (hk : zEv 21 12 1 60 [some (.ref 7)] [] (9, ziC8, (ziL4 Ln), ziF10, ziI10, (ziA3 xs)) r) : zEv 21 9 1 60 [some (.ref 7)] [.ref 8, .ref 7] (9, ziC8, (ziL4 Ln), ziF9, ziI10, (ziA3 xs)) r :=
  zEv.lift 1 (fun _ => by with_unfolding_all rfl) hk
set_option maxRecDepth 100000 in
theorem zin_3_X4_init_p2 (Ln : Nat) (xs : Nat → Int32) {r : zRs} (hk : zEv 21 17 1 60 [some (.ref 7)] [] (9, ziC8, (ziL4 Ln), ziF10, ziI11, (ziA3 xs)) r) : zEv 21 12 1 60 [some (.ref 7)] [] (9, ziC8, (ziL4 Ln), ziF10, ziI10, (ziA3 xs)) r :=
  zEv.lift 3 (fun _ => by with_unfolding_all rfl) hk
set_option maxRecDepth 100000 in
theorem zin_3_X4_init_p3 (Ln : Nat) (xs : Nat → Int32) {r : zRs} (hk : zEv 21 22 1 60 [some (.ref 7)] [] (9, ziC8, (ziL4 Ln), ziF10, ziI12, (ziA3 xs)) r) : zEv 21 17 1 60 [some (.ref 7)] [] (9, ziC8, (ziL4 Ln), ziF10, ziI11, (ziA3 xs)) r :=
  zEv.lift 3 (fun _ => by with_unfolding_all rfl) hk
set_option maxRecDepth 100000 in
theorem zin_3_X4_init_p4 (Ln : Nat) (xs : Nat → Int32) {r : zRs} (hk : zEv 21 27 1 60 [some (.ref 7)] [] (9, ziC8, (ziL4 Ln), ziF10, ziI13, (ziA3 xs)) r) : zEv 21 22 1 60 [some (.ref 7)] [] (9, ziC8, (ziL4 Ln), ziF10, ziI12, (ziA3 xs)) r :=
  zEv.lift 3 (fun _ => by with_unfolding_all rfl) hk
set_option maxRecDepth 100000 in
theorem zin_3_X4_init (Ln : Nat) (xs : Nat → Int32) : zEv 21 0 0 0 [some (.ref 7)] [] (8, ziC7, (ziL3 Ln), ziF9, ziI10, (ziA2 xs)) (none, (9, ziC8, (ziL4 Ln), ziF10, ziI13, (ziA3 xs))) := (zin_3_X4_init_p0 Ln xs (zin_3_X4_init_p1 Ln xs (zin_3_X4_init_p2 Ln xs (zin_3_X4_init_p3 Ln xs (zin_3_X4_init_p4 Ln xs (zEv.ret rfl))))))
set_option maxRecDepth 100000 in
theorem zin_4_X4_init_p0 (Ln : Nat) (xs : Nat → Int32) {r : zRs} (hk : zEv 21 9 1 60 [some (.ref 9)] [.ref 10, .ref 9] (11, ziC10, (ziL5 Ln), ziF12, ziI14, (ziA4 xs)) r) : zEv 21 0 0 0 [some (.ref 9)] [] (10, ziC9, (ziL4 Ln), ziF12, ziI14, (ziA3 xs)) r :=
  zEv.lift 5 (fun _ => by with_unfolding_all rfl) hk
set_option maxRecDepth 100000 in
theorem zin_4_X4_init_p1 (Ln : Nat) (xs : Nat → Int32) {r : zRs} (hk : zEv 21 12 1 60 [some (.ref 9)] [] (11, ziC10, (ziL5 Ln), ziF13, ziI14, (ziA4 xs)) r) : zEv 21 9 1 60 [some (.ref 9)] [.ref 10, .ref 9] (11, ziC10, (ziL5 Ln), ziF12, ziI14, (ziA4 xs)) r :=
  zEv.lift 1 (fun _ => by with_unfolding_all rfl) hk
set_option maxRecDepth 100000 in
theorem zin_4_X4_init_p2 (Ln : Nat) (xs : Nat → Int32) {r : zRs} (hk : zEv 21 17 1 60 [some (.ref 9)] [] (11, ziC10, (ziL5 Ln), ziF13, ziI15, (ziA4 xs)) r) : zEv 21 12 1 60 [some (.ref 9)] [] (11, ziC10, (ziL5 Ln), ziF13, ziI14, (ziA4 xs)) r :=
  zEv.lift 3 (fun _ => by with_unfolding_all rfl) hk
set_option maxRecDepth 100000 in
theorem zin_4_X4_init_p3 (Ln : Nat) (xs : Nat → Int32) {r : zRs} (hk : zEv 21 22 1 60 [some (.ref 9)] [] (11, ziC10, (ziL5 Ln), ziF13, ziI16, (ziA4 xs)) r) : zEv 21 17 1 60 [some (.ref 9)] [] (11, ziC10, (ziL5 Ln), ziF13, ziI15, (ziA4 xs)) r :=
  zEv.lift 3 (fun _ => by with_unfolding_all rfl) hk
set_option maxRecDepth 100000 in
theorem zin_4_X4_init_p4 (Ln : Nat) (xs : Nat → Int32) {r : zRs} (hk : zEv 21 27 1 60 [some (.ref 9)] [] (11, ziC10, (ziL5 Ln), ziF13, ziI17, (ziA4 xs)) r) : zEv 21 22 1 60 [some (.ref 9)] [] (11, ziC10, (ziL5 Ln), ziF13, ziI16, (ziA4 xs)) r :=
  zEv.lift 3 (fun _ => by with_unfolding_all rfl) hk
set_option maxRecDepth 100000 in
theorem zin_4_X4_init (Ln : Nat) (xs : Nat → Int32) : zEv 21 0 0 0 [some (.ref 9)] [] (10, ziC9, (ziL4 Ln), ziF12, ziI14, (ziA3 xs)) (none, (11, ziC10, (ziL5 Ln), ziF13, ziI17, (ziA4 xs))) := (zin_4_X4_init_p0 Ln xs (zin_4_X4_init_p1 Ln xs (zin_4_X4_init_p2 Ln xs (zin_4_X4_init_p3 Ln xs (zin_4_X4_init_p4 Ln xs (zEv.ret rfl))))))
set_option maxRecDepth 100000 in
theorem zin_5_X0_init_p0 (Ln : Nat) (xs : Nat → Int32) {r : zRs} (hk : zEv 0 9 0 0 [some (.ref 11)] [] (12, ziC11, (ziL5 Ln), ziF15, ziI19, (ziA4 xs)) r) : zEv 0 0 0 0 [some (.ref 11)] [] (12, ziC11, (ziL5 Ln), ziF15, ziI18, (ziA4 xs)) r :=
  zEv.lift 5 (fun _ => by with_unfolding_all rfl) hk
set_option maxRecDepth 100000 in
theorem zin_5_X0_init_p1 (Ln : Nat) (xs : Nat → Int32) {r : zRs} (hk : zEv 0 14 0 0 [some (.ref 11)] [] (12, ziC11, (ziL5 Ln), ziF15, ziI20, (ziA4 xs)) r) : zEv 0 9 0 0 [some (.ref 11)] [] (12, ziC11, (ziL5 Ln), ziF15, ziI19, (ziA4 xs)) r :=
  zEv.lift 3 (fun _ => by with_unfolding_all rfl) hk
set_option maxRecDepth 100000 in
theorem zin_5_X0_init_p2 (Ln : Nat) (xs : Nat → Int32) {r : zRs} (hk : zEv 0 19 0 0 [some (.ref 11)] [] (12, ziC11, (ziL5 Ln), ziF15, ziI21, (ziA4 xs)) r) : zEv 0 14 0 0 [some (.ref 11)] [] (12, ziC11, (ziL5 Ln), ziF15, ziI20, (ziA4 xs)) r :=
  zEv.lift 3 (fun _ => by with_unfolding_all rfl) hk
set_option maxRecDepth 100000 in
theorem zin_5_X0_init_p3 (Ln : Nat) (xs : Nat → Int32) {r : zRs} (hk : zEv 0 24 0 0 [some (.ref 11)] [] (12, ziC11, (ziL5 Ln), ziF15, ziI22, (ziA4 xs)) r) : zEv 0 19 0 0 [some (.ref 11)] [] (12, ziC11, (ziL5 Ln), ziF15, ziI21, (ziA4 xs)) r :=
  zEv.lift 3 (fun _ => by with_unfolding_all rfl) hk
set_option maxRecDepth 100000 in
theorem zin_5_X0_init_p4 (Ln : Nat) (xs : Nat → Int32) {r : zRs} (hk : zEv 0 29 1 6 [some (.ref 11)] [.ref 12, .ref 11] (13, ziC12, (ziL6 Ln), ziF15, ziI22, (ziA5 xs)) r) : zEv 0 24 0 0 [some (.ref 11)] [] (12, ziC11, (ziL5 Ln), ziF15, ziI22, (ziA4 xs)) r :=
  zEv.lift 3 (fun _ => by with_unfolding_all rfl) hk
set_option maxRecDepth 100000 in
theorem zin_5_X0_init_p5 (Ln : Nat) (xs : Nat → Int32) {r : zRs} (hk : zEv 0 32 1 6 [some (.ref 11)] [] (13, ziC12, (ziL6 Ln), ziF16, ziI22, (ziA5 xs)) r) : zEv 0 29 1 6 [some (.ref 11)] [.ref 12, .ref 11] (13, ziC12, (ziL6 Ln), ziF15, ziI22, (ziA5 xs)) r :=
  zEv.lift 1 (fun _ => by with_unfolding_all rfl) hk
set_option maxRecDepth 100000 in
theorem zin_5_X0_init_p6 (Ln : Nat) (xs : Nat → Int32) {r : zRs} (hk : zEv 0 37 2 12 [some (.ref 11)] [.ref 13, .ref 11] (14, ziC13, (ziL7 Ln), ziF16, ziI22, (ziA6 xs)) r) : zEv 0 32 1 6 [some (.ref 11)] [] (13, ziC12, (ziL6 Ln), ziF16, ziI22, (ziA5 xs)) r :=
  zEv.lift 3 (fun _ => by with_unfolding_all rfl) hk
set_option maxRecDepth 100000 in
theorem zin_5_X0_init_p7 (Ln : Nat) (xs : Nat → Int32) {r : zRs} (hk : zEv 0 40 2 12 [some (.ref 11)] [] (14, ziC13, (ziL7 Ln), ziF17, ziI22, (ziA6 xs)) r) : zEv 0 37 2 12 [some (.ref 11)] [.ref 13, .ref 11] (14, ziC13, (ziL7 Ln), ziF16, ziI22, (ziA6 xs)) r :=
  zEv.lift 1 (fun _ => by with_unfolding_all rfl) hk
set_option maxRecDepth 100000 in
theorem zin_5_X0_init_p8 (Ln : Nat) (xs : Nat → Int32) {r : zRs} (hk : zEv 0 45 3 18 [some (.ref 11)] [.ref 14, .ref 11] (15, ziC14, (ziL8 Ln), ziF17, ziI22, (ziA7 xs)) r) : zEv 0 40 2 12 [some (.ref 11)] [] (14, ziC13, (ziL7 Ln), ziF17, ziI22, (ziA6 xs)) r :=
  zEv.lift 3 (fun _ => by with_unfolding_all rfl) hk
set_option maxRecDepth 100000 in
theorem zin_5_X0_init_p9 (Ln : Nat) (xs : Nat → Int32) {r : zRs} (hk : zEv 0 48 3 18 [some (.ref 11)] [] (15, ziC14, (ziL8 Ln), ziF18, ziI22, (ziA7 xs)) r) : zEv 0 45 3 18 [some (.ref 11)] [.ref 14, .ref 11] (15, ziC14, (ziL8 Ln), ziF17, ziI22, (ziA7 xs)) r :=
  zEv.lift 1 (fun _ => by with_unfolding_all rfl) hk
set_option maxRecDepth 100000 in
theorem zin_5_X0_init_p10 (Ln : Nat) (xs : Nat → Int32) {r : zRs} (hk : zEv 0 53 4 24 [some (.ref 11)] [.ref 15, .ref 11] (16, ziC15, (ziL9 Ln), ziF18, ziI22, (ziA8 xs)) r) : zEv 0 48 3 18 [some (.ref 11)] [] (15, ziC14, (ziL8 Ln), ziF18, ziI22, (ziA7 xs)) r :=
  zEv.lift 3 (fun _ => by with_unfolding_all rfl) hk
set_option maxRecDepth 100000 in
theorem zin_5_X0_init_p11 (Ln : Nat) (xs : Nat → Int32) {r : zRs} (hk : zEv 0 56 4 24 [some (.ref 11)] [] (16, ziC15, (ziL9 Ln), ziF19, ziI22, (ziA8 xs)) r) : zEv 0 53 4 24 [some (.ref 11)] [.ref 15, .ref 11] (16, ziC15, (ziL9 Ln), ziF18, ziI22, (ziA8 xs)) r :=
  zEv.lift 1 (fun _ => by with_unfolding_all rfl) hk
set_option maxRecDepth 100000 in
theorem zin_5_X0_init_p12 (Ln : Nat) (xs : Nat → Int32) {r : zRs} (hk : zEv 0 61 5 84 [some (.ref 11)] [.ref 16, .ref 11] (17, ziC16, (ziL10 Ln), ziF19, ziI22, (ziA9 xs)) r) : zEv 0 56 4 24 [some (.ref 11)] [] (16, ziC15, (ziL9 Ln), ziF19, ziI22, (ziA8 xs)) r :=
  zEv.lift 3 (fun _ => by with_unfolding_all rfl) hk
set_option maxRecDepth 100000 in
theorem zin_5_X0_init_p13 (Ln : Nat) (xs : Nat → Int32) {r : zRs} (hk : zEv 0 64 5 84 [some (.ref 11)] [] (17, ziC16, (ziL10 Ln), ziF20, ziI22, (ziA9 xs)) r) : zEv 0 61 5 84 [some (.ref 11)] [.ref 16, .ref 11] (17, ziC16, (ziL10 Ln), ziF19, ziI22, (ziA9 xs)) r :=
  zEv.lift 1 (fun _ => by with_unfolding_all rfl) hk
set_option maxRecDepth 100000 in
theorem zin_5_X0_init_p14 (Ln : Nat) (xs : Nat → Int32) {r : zRs} (hk : zEv 0 69 6 148 [some (.ref 11)] [.ref 17, .ref 11] (18, ziC17, (ziL11 Ln), ziF20, ziI22, (ziA10 xs)) r) : zEv 0 64 5 84 [some (.ref 11)] [] (17, ziC16, (ziL10 Ln), ziF20, ziI22, (ziA9 xs)) r :=
  zEv.lift 3 (fun _ => by with_unfolding_all rfl) hk
set_option maxRecDepth 100000 in
theorem zin_5_X0_init_p15 (Ln : Nat) (xs : Nat → Int32) {r : zRs} (hk : zEv 0 72 6 148 [some (.ref 11)] [] (18, ziC17, (ziL11 Ln), ziF21, ziI22, (ziA10 xs)) r) : zEv 0 69 6 148 [some (.ref 11)] [.ref 17, .ref 11] (18, ziC17, (ziL11 Ln), ziF20, ziI22, (ziA10 xs)) r :=
  zEv.lift 1 (fun _ => by with_unfolding_all rfl) hk
set_option maxRecDepth 100000 in
theorem zin_5_X0_init (Ln : Nat) (xs : Nat → Int32) : zEv 0 0 0 0 [some (.ref 11)] [] (12, ziC11, (ziL5 Ln), ziF15, ziI18, (ziA4 xs)) (none, (18, ziC17, (ziL11 Ln), ziF21, ziI22, (ziA10 xs))) := (zin_5_X0_init_p0 Ln xs (zin_5_X0_init_p1 Ln xs (zin_5_X0_init_p2 Ln xs (zin_5_X0_init_p3 Ln xs (zin_5_X0_init_p4 Ln xs (zin_5_X0_init_p5 Ln xs (zin_5_X0_init_p6 Ln xs (zin_5_X0_init_p7 Ln xs (zin_5_X0_init_p8 Ln xs (zin_5_X0_init_p9 Ln xs (zin_5_X0_init_p10 Ln xs (zin_5_X0_init_p11 Ln xs (zin_5_X0_init_p12 Ln xs (zin_5_X0_init_p13 Ln xs (zin_5_X0_init_p14 Ln xs (zin_5_X0_init_p15 Ln xs (zEv.ret rfl)))))))))))))))))
set_option maxRecDepth 100000 in
theorem zin_6_X2_init_p0 (Ln : Nat) (xs : Nat → Int32) {r : zRs} (hk : zEv 13 9 1 6 [some (.ref 18)] [.ref 19, .ref 18] (20, ziC19, (ziL12 Ln), ziF24, ziI23, (ziA11 xs)) r) : zEv 13 0 0 0 [some (.ref 18)] [] (19, ziC18, (ziL11 Ln), ziF24, ziI23, (ziA10 xs)) r :=
  zEv.lift 5 (fun _ => by with_unfolding_all rfl) hk
set_option maxRecDepth 100000 in
theorem zin_6_X2_init_p1 (Ln : Nat) (xs : Nat → Int32) {r : zRs} (hk : zEv 13 12 1 6 [some (.ref 18)] [] (20, ziC19, (ziL12 Ln), ziF25, ziI23, (ziA11 xs)) r) : zEv 13 9 1 6 [some (.ref 18)] [.ref 19, .ref 18] (20, ziC19, (ziL12 Ln), ziF24, ziI23, (ziA11 xs)) r :=
  zEv.lift 1 (fun _ => by with_unfolding_all rfl) hk
set_option maxRecDepth 100000 in
theorem zin_6_X2_init_p2 (Ln : Nat) (xs : Nat → Int32) {r : zRs} (hk : zEv 13 17 2 12 [some (.ref 18)] [.ref 20, .ref 18] (21, ziC20, (ziL13 Ln), ziF25, ziI23, (ziA12 xs)) r) : zEv 13 12 1 6 [some (.ref 18)] [] (20, ziC19, (ziL12 Ln), ziF25, ziI23, (ziA11 xs)) r :=
  zEv.lift 3 (fun _ => by with_unfolding_all rfl) hk
set_option maxRecDepth 100000 in
theorem zin_6_X2_init_p3 (Ln : Nat) (xs : Nat → Int32) {r : zRs} (hk : zEv 13 20 2 12 [some (.ref 18)] [] (21, ziC20, (ziL13 Ln), ziF26, ziI23, (ziA12 xs)) r) : zEv 13 17 2 12 [some (.ref 18)] [.ref 20, .ref 18] (21, ziC20, (ziL13 Ln), ziF25, ziI23, (ziA12 xs)) r :=
  zEv.lift 1 (fun _ => by with_unfolding_all rfl) hk
set_option maxRecDepth 100000 in
theorem zin_6_X2_init_p4 (Ln : Nat) (xs : Nat → Int32) {r : zRs} (hk : zEv 13 25 3 18 [some (.ref 18)] [.ref 21, .ref 18] (22, ziC21, (ziL14 Ln), ziF26, ziI23, (ziA13 xs)) r) : zEv 13 20 2 12 [some (.ref 18)] [] (21, ziC20, (ziL13 Ln), ziF26, ziI23, (ziA12 xs)) r :=
  zEv.lift 3 (fun _ => by with_unfolding_all rfl) hk
set_option maxRecDepth 100000 in
theorem zin_6_X2_init_p5 (Ln : Nat) (xs : Nat → Int32) {r : zRs} (hk : zEv 13 28 3 18 [some (.ref 18)] [] (22, ziC21, (ziL14 Ln), ziF27, ziI23, (ziA13 xs)) r) : zEv 13 25 3 18 [some (.ref 18)] [.ref 21, .ref 18] (22, ziC21, (ziL14 Ln), ziF26, ziI23, (ziA13 xs)) r :=
  zEv.lift 1 (fun _ => by with_unfolding_all rfl) hk
set_option maxRecDepth 100000 in
theorem zin_6_X2_init_p6 (Ln : Nat) (xs : Nat → Int32) {r : zRs} (hk : zEv 13 33 3 18 [some (.ref 18)] [] (22, ziC21, (ziL14 Ln), ziF27, ziI24, (ziA13 xs)) r) : zEv 13 28 3 18 [some (.ref 18)] [] (22, ziC21, (ziL14 Ln), ziF27, ziI23, (ziA13 xs)) r :=
  zEv.lift 3 (fun _ => by with_unfolding_all rfl) hk
set_option maxRecDepth 100000 in
theorem zin_6_X2_init (Ln : Nat) (xs : Nat → Int32) : zEv 13 0 0 0 [some (.ref 18)] [] (19, ziC18, (ziL11 Ln), ziF24, ziI23, (ziA10 xs)) (none, (22, ziC21, (ziL14 Ln), ziF27, ziI24, (ziA13 xs))) := (zin_6_X2_init_p0 Ln xs (zin_6_X2_init_p1 Ln xs (zin_6_X2_init_p2 Ln xs (zin_6_X2_init_p3 Ln xs (zin_6_X2_init_p4 Ln xs (zin_6_X2_init_p5 Ln xs (zin_6_X2_init_p6 Ln xs (zEv.ret rfl))))))))
set_option maxRecDepth 100000 in
theorem zin_7_X3_init_p0 (Ln : Nat) (xs : Nat → Int32) {r : zRs} (hk : zEv 18 9 1 6 [some (.ref 22)] [.ref 23, .ref 22] (24, ziC23, (ziL15 Ln), ziF29, ziI25, (ziA14 xs)) r) : zEv 18 0 0 0 [some (.ref 22)] [] (23, ziC22, (ziL14 Ln), ziF29, ziI25, (ziA13 xs)) r :=
  zEv.lift 5 (fun _ => by with_unfolding_all rfl) hk
set_option maxRecDepth 100000 in
theorem zin_7_X3_init_p1 (Ln : Nat) (xs : Nat → Int32) {r : zRs} (hk : zEv 18 12 1 6 [some (.ref 22)] [] (24, ziC23, (ziL15 Ln), ziF30, ziI25, (ziA14 xs)) r) : zEv 18 9 1 6 [some (.ref 22)] [.ref 23, .ref 22] (24, ziC23, (ziL15 Ln), ziF29, ziI25, (ziA14 xs)) r :=
  zEv.lift 1 (fun _ => by with_unfolding_all rfl) hk
set_option maxRecDepth 100000 in
theorem zin_7_X3_init_p2 (Ln : Nat) (xs : Nat → Int32) {r : zRs} (hk : zEv 18 17 2 12 [some (.ref 22)] [.ref 24, .ref 22] (25, ziC24, (ziL16 Ln), ziF30, ziI25, (ziA15 xs)) r) : zEv 18 12 1 6 [some (.ref 22)] [] (24, ziC23, (ziL15 Ln), ziF30, ziI25, (ziA14 xs)) r :=
  zEv.lift 3 (fun _ => by with_unfolding_all rfl) hk
set_option maxRecDepth 100000 in
theorem zin_7_X3_init_p3 (Ln : Nat) (xs : Nat → Int32) {r : zRs} (hk : zEv 18 20 2 12 [some (.ref 22)] [] (25, ziC24, (ziL16 Ln), ziF31, ziI25, (ziA15 xs)) r) : zEv 18 17 2 12 [some (.ref 22)] [.ref 24, .ref 22] (25, ziC24, (ziL16 Ln), ziF30, ziI25, (ziA15 xs)) r :=
  zEv.lift 1 (fun _ => by with_unfolding_all rfl) hk
set_option maxRecDepth 100000 in
theorem zin_7_X3_init_p4 (Ln : Nat) (xs : Nat → Int32) {r : zRs} (hk : zEv 18 25 3 18 [some (.ref 22)] [.ref 25, .ref 22] (26, ziC25, (ziL17 Ln), ziF31, ziI25, (ziA16 xs)) r) : zEv 18 20 2 12 [some (.ref 22)] [] (25, ziC24, (ziL16 Ln), ziF31, ziI25, (ziA15 xs)) r :=
  zEv.lift 3 (fun _ => by with_unfolding_all rfl) hk
set_option maxRecDepth 100000 in
theorem zin_7_X3_init_p5 (Ln : Nat) (xs : Nat → Int32) {r : zRs} (hk : zEv 18 28 3 18 [some (.ref 22)] [] (26, ziC25, (ziL17 Ln), ziF32, ziI25, (ziA16 xs)) r) : zEv 18 25 3 18 [some (.ref 22)] [.ref 25, .ref 22] (26, ziC25, (ziL17 Ln), ziF31, ziI25, (ziA16 xs)) r :=
  zEv.lift 1 (fun _ => by with_unfolding_all rfl) hk
set_option maxRecDepth 100000 in
theorem zin_7_X3_init_p6 (Ln : Nat) (xs : Nat → Int32) {r : zRs} (hk : zEv 18 33 3 18 [some (.ref 22)] [] (26, ziC25, (ziL17 Ln), ziF32, ziI26, (ziA16 xs)) r) : zEv 18 28 3 18 [some (.ref 22)] [] (26, ziC25, (ziL17 Ln), ziF32, ziI25, (ziA16 xs)) r :=
  zEv.lift 3 (fun _ => by with_unfolding_all rfl) hk
set_option maxRecDepth 100000 in
theorem zin_7_X3_init (Ln : Nat) (xs : Nat → Int32) : zEv 18 0 0 0 [some (.ref 22)] [] (23, ziC22, (ziL14 Ln), ziF29, ziI25, (ziA13 xs)) (none, (26, ziC25, (ziL17 Ln), ziF32, ziI26, (ziA16 xs))) := (zin_7_X3_init_p0 Ln xs (zin_7_X3_init_p1 Ln xs (zin_7_X3_init_p2 Ln xs (zin_7_X3_init_p3 Ln xs (zin_7_X3_init_p4 Ln xs (zin_7_X3_init_p5 Ln xs (zin_7_X3_init_p6 Ln xs (zEv.ret rfl))))))))
set_option maxRecDepth 100000 in
theorem zin_8_X1_init_p0 (Ln : Nat) (xs : Nat → Int32) {r : zRs} (hk : zEv 9 9 1 64 [some (.ref 26), some (.ref 11)] [.ref 27, .ref 26] (28, ziC27, (ziL18 Ln), ziF34, ziI27, (ziA17 xs)) r) : zEv 9 0 0 0 [some (.ref 26), some (.ref 11)] [] (27, ziC26, (ziL17 Ln), ziF34, ziI27, (ziA16 xs)) r :=
  zEv.lift 5 (fun _ => by with_unfolding_all rfl) hk
set_option maxRecDepth 100000 in
theorem zin_8_X1_init_p1 (Ln : Nat) (xs : Nat → Int32) {r : zRs} (hk : zEv 9 12 1 64 [some (.ref 26), some (.ref 11)] [] (28, ziC27, (ziL18 Ln), ziF35, ziI27, (ziA17 xs)) r) : zEv 9 9 1 64 [some (.ref 26), some (.ref 11)] [.ref 27, .ref 26] (28, ziC27, (ziL18 Ln), ziF34, ziI27, (ziA17 xs)) r :=
  zEv.lift 1 (fun _ => by with_unfolding_all rfl) hk
set_option maxRecDepth 100000 in
theorem zin_8_X1_init_p2 (Ln : Nat) (xs : Nat → Int32) {r : zRs} (hk : zEv 9 17 1 64 [some (.ref 26), some (.ref 11)] [] (28, ziC27, (ziL18 Ln), ziF36, ziI27, (ziA17 xs)) r) : zEv 9 12 1 64 [some (.ref 26), some (.ref 11)] [] (28, ziC27, (ziL18 Ln), ziF35, ziI27, (ziA17 xs)) r :=
  zEv.lift 3 (fun _ => by with_unfolding_all rfl) hk
set_option maxRecDepth 100000 in
theorem zin_8_X1_init (Ln : Nat) (xs : Nat → Int32) : zEv 9 0 0 0 [some (.ref 26), some (.ref 11)] [] (27, ziC26, (ziL17 Ln), ziF34, ziI27, (ziA16 xs)) (none, (28, ziC27, (ziL18 Ln), ziF36, ziI27, (ziA17 xs))) := (zin_8_X1_init_p0 Ln xs (zin_8_X1_init_p1 Ln xs (zin_8_X1_init_p2 Ln xs (zEv.ret rfl))))
set_option maxRecDepth 100000 in
theorem zin_9_X6_init_p0 (Ln : Nat) (xs : Nat → Int32) {r : zRs} (hk : zEv 34 9 1 6 [some (.ref 28), some (.ref 11)] [.ref 29, .ref 28] (30, ziC29, (ziL19 Ln), ziF38, ziI28, (ziA18 xs)) r) : zEv 34 0 0 0 [some (.ref 28), some (.ref 11)] [] (29, ziC28, (ziL18 Ln), ziF38, ziI28, (ziA17 xs)) r :=
  zEv.lift 5 (fun _ => by with_unfolding_all rfl) hk
set_option maxRecDepth 100000 in
theorem zin_9_X6_init_p1 (Ln : Nat) (xs : Nat → Int32) {r : zRs} (hk : zEv 34 12 1 6 [some (.ref 28), some (.ref 11)] [] (30, ziC29, (ziL19 Ln), ziF39, ziI28, (ziA18 xs)) r) : zEv 34 9 1 6 [some (.ref 28), some (.ref 11)] [.ref 29, .ref 28] (30, ziC29, (ziL19 Ln), ziF38, ziI28, (ziA18 xs)) r :=
  zEv.lift 1 (fun _ => by with_unfolding_all rfl) hk
set_option maxRecDepth 100000 in
theorem zin_9_X6_init_p2 (Ln : Nat) (xs : Nat → Int32) {r : zRs} (hk : zEv 34 17 2 66 [some (.ref 28), some (.ref 11)] [.ref 30, .ref 28] (31, ziC30, (ziL20 Ln), ziF39, ziI28, (ziA19 xs)) r) : zEv 34 12 1 6 [some (.ref 28), some (.ref 11)] [] (30, ziC29, (ziL19 Ln), ziF39, ziI28, (ziA18 xs)) r :=
  zEv.lift 3 (fun _ => by with_unfolding_all rfl) hk
set_option maxRecDepth 100000 in
theorem zin_9_X6_init_p3 (Ln : Nat) (xs : Nat → Int32) {r : zRs} (hk : zEv 34 20 2 66 [some (.ref 28), some (.ref 11)] [] (31, ziC30, (ziL20 Ln), ziF40, ziI28, (ziA19 xs)) r) : zEv 34 17 2 66 [some (.ref 28), some (.ref 11)] [.ref 30, .ref 28] (31, ziC30, (ziL20 Ln), ziF39, ziI28, (ziA19 xs)) r :=
  zEv.lift 1 (fun _ => by with_unfolding_all rfl) hk
set_option maxRecDepth 100000 in
theorem zin_9_X6_init_p4 (Ln : Nat) (xs : Nat → Int32) {r : zRs} (hk : zEv 34 25 3 126 [some (.ref 28), some (.ref 11)] [.ref 31, .ref 28] (32, ziC31, (ziL21 Ln), ziF40, ziI28, (ziA20 xs)) r) : zEv 34 20 2 66 [some (.ref 28), some (.ref 11)] [] (31, ziC30, (ziL20 Ln), ziF40, ziI28, (ziA19 xs)) r :=
  zEv.lift 3 (fun _ => by with_unfolding_all rfl) hk
set_option maxRecDepth 100000 in
theorem zin_9_X6_init_p5 (Ln : Nat) (xs : Nat → Int32) {r : zRs} (hk : zEv 34 28 3 126 [some (.ref 28), some (.ref 11)] [] (32, ziC31, (ziL21 Ln), ziF41, ziI28, (ziA20 xs)) r) : zEv 34 25 3 126 [some (.ref 28), some (.ref 11)] [.ref 31, .ref 28] (32, ziC31, (ziL21 Ln), ziF40, ziI28, (ziA20 xs)) r :=
  zEv.lift 1 (fun _ => by with_unfolding_all rfl) hk
set_option maxRecDepth 100000 in
theorem zin_9_X6_init_p6 (Ln : Nat) (xs : Nat → Int32) {r : zRs} (hk : zEv 34 33 4 186 [some (.ref 28), some (.ref 11)] [.ref 32, .ref 28] (33, ziC32, (ziL22 Ln), ziF41, ziI28, (ziA21 xs)) r) : zEv 34 28 3 126 [some (.ref 28), some (.ref 11)] [] (32, ziC31, (ziL21 Ln), ziF41, ziI28, (ziA20 xs)) r :=
  zEv.lift 3 (fun _ => by with_unfolding_all rfl) hk
set_option maxRecDepth 100000 in
theorem zin_9_X6_init_p7 (Ln : Nat) (xs : Nat → Int32) {r : zRs} (hk : zEv 34 36 4 186 [some (.ref 28), some (.ref 11)] [] (33, ziC32, (ziL22 Ln), ziF42, ziI28, (ziA21 xs)) r) : zEv 34 33 4 186 [some (.ref 28), some (.ref 11)] [.ref 32, .ref 28] (33, ziC32, (ziL22 Ln), ziF41, ziI28, (ziA21 xs)) r :=
  zEv.lift 1 (fun _ => by with_unfolding_all rfl) hk
set_option maxRecDepth 100000 in
theorem zin_9_X6_init_p8 (Ln : Nat) (xs : Nat → Int32) {r : zRs} (hk : zEv 34 41 5 192 [some (.ref 28), some (.ref 11)] [.ref 33, .ref 28] (34, ziC33, (ziL23 Ln), ziF42, ziI28, (ziA22 xs)) r) : zEv 34 36 4 186 [some (.ref 28), some (.ref 11)] [] (33, ziC32, (ziL22 Ln), ziF42, ziI28, (ziA21 xs)) r :=
  zEv.lift 3 (fun _ => by with_unfolding_all rfl) hk
set_option maxRecDepth 100000 in
theorem zin_9_X6_init_p9 (Ln : Nat) (xs : Nat → Int32) {r : zRs} (hk : zEv 34 44 5 192 [some (.ref 28), some (.ref 11)] [] (34, ziC33, (ziL23 Ln), ziF43, ziI28, (ziA22 xs)) r) : zEv 34 41 5 192 [some (.ref 28), some (.ref 11)] [.ref 33, .ref 28] (34, ziC33, (ziL23 Ln), ziF42, ziI28, (ziA22 xs)) r :=
  zEv.lift 1 (fun _ => by with_unfolding_all rfl) hk
set_option maxRecDepth 100000 in
theorem zin_9_X6_init_p10 (Ln : Nat) (xs : Nat → Int32) {r : zRs} (hk : zEv 34 49 6 198 [some (.ref 28), some (.ref 11)] [.ref 34, .ref 28] (35, ziC34, (ziL24 Ln), ziF43, ziI28, (ziA23 xs)) r) : zEv 34 44 5 192 [some (.ref 28), some (.ref 11)] [] (34, ziC33, (ziL23 Ln), ziF43, ziI28, (ziA22 xs)) r :=
  zEv.lift 3 (fun _ => by with_unfolding_all rfl) hk
set_option maxRecDepth 100000 in
theorem zin_9_X6_init_p11 (Ln : Nat) (xs : Nat → Int32) {r : zRs} (hk : zEv 34 52 6 198 [some (.ref 28), some (.ref 11)] [] (35, ziC34, (ziL24 Ln), ziF44, ziI28, (ziA23 xs)) r) : zEv 34 49 6 198 [some (.ref 28), some (.ref 11)] [.ref 34, .ref 28] (35, ziC34, (ziL24 Ln), ziF43, ziI28, (ziA23 xs)) r :=
  zEv.lift 1 (fun _ => by with_unfolding_all rfl) hk
set_option maxRecDepth 100000 in
theorem zin_9_X6_init_p12 (Ln : Nat) (xs : Nat → Int32) {r : zRs} (hk : zEv 34 57 6 198 [some (.ref 28), some (.ref 11)] [] (35, ziC34, (ziL24 Ln), ziF45, ziI28, (ziA23 xs)) r) : zEv 34 52 6 198 [some (.ref 28), some (.ref 11)] [] (35, ziC34, (ziL24 Ln), ziF44, ziI28, (ziA23 xs)) r :=
  zEv.lift 3 (fun _ => by with_unfolding_all rfl) hk
set_option maxRecDepth 100000 in
theorem zin_9_X6_init (Ln : Nat) (xs : Nat → Int32) : zEv 34 0 0 0 [some (.ref 28), some (.ref 11)] [] (29, ziC28, (ziL18 Ln), ziF38, ziI28, (ziA17 xs)) (none, (35, ziC34, (ziL24 Ln), ziF45, ziI28, (ziA23 xs))) := (zin_9_X6_init_p0 Ln xs (zin_9_X6_init_p1 Ln xs (zin_9_X6_init_p2 Ln xs (zin_9_X6_init_p3 Ln xs (zin_9_X6_init_p4 Ln xs (zin_9_X6_init_p5 Ln xs (zin_9_X6_init_p6 Ln xs (zin_9_X6_init_p7 Ln xs (zin_9_X6_init_p8 Ln xs (zin_9_X6_init_p9 Ln xs (zin_9_X6_init_p10 Ln xs (zin_9_X6_init_p11 Ln xs (zin_9_X6_init_p12 Ln xs (zEv.ret rfl))))))))))))))
set_option maxRecDepth 100000 in
theorem zin_10_X6_init_p0 (Ln : Nat) (xs : Nat → Int32) {r : zRs} (hk : zEv 34 9 1 6 [some (.ref 35), some (.ref 11)] [.ref 36, .ref 35] (37, ziC36, (ziL25 Ln), ziF47, ziI29, (ziA24 xs)) r) : zEv 34 0 0 0 [some (.ref 35), some (.ref 11)] [] (36, ziC35, (ziL24 Ln), ziF47, ziI29, (ziA23 xs)) r :=
  zEv.lift 5 (fun _ => by with_unfolding_all rfl) hk
set_option maxRecDepth 100000 in
theorem zin_10_X6_init_p1 (Ln : Nat) (xs : Nat → Int32) {r : zRs} (hk : zEv 34 12 1 6 [some (.ref 35), some (.ref 11)] [] (37, ziC36, (ziL25 Ln), ziF48, ziI29, (ziA24 xs)) r) : zEv 34 9 1 6 [some (.ref 35), some (.ref 11)] [.ref 36, .ref 35] (37, ziC36, (ziL25 Ln), ziF47, ziI29, (ziA24 xs)) r :=
  zEv.lift 1 (fun _ => by with_unfolding_all rfl) hk
set_option maxRecDepth 100000 in
theorem zin_10_X6_init_p2 (Ln : Nat) (xs : Nat → Int32) {r : zRs} (hk : zEv 34 17 2 66 [some (.ref 35), some (.ref 11)] [.ref 37, .ref 35] (38, ziC37, (ziL26 Ln), ziF48, ziI29, (ziA25 xs)) r) : zEv 34 12 1 6 [some (.ref 35), some (.ref 11)] [] (37, ziC36, (ziL25 Ln), ziF48, ziI29, (ziA24 xs)) r :=
  zEv.lift 3 (fun _ => by with_unfolding_all rfl) hk
set_option maxRecDepth 100000 in
theorem zin_10_X6_init_p3 (Ln : Nat) (xs : Nat → Int32) {r : zRs} (hk : zEv 34 20 2 66 [some (.ref 35), some (.ref 11)] [] (38, ziC37, (ziL26 Ln), ziF49, ziI29, (ziA25 xs)) r) : zEv 34 17 2 66 [some (.ref 35), some (.ref 11)] [.ref 37, .ref 35] (38, ziC37, (ziL26 Ln), ziF48, ziI29, (ziA25 xs)) r :=
  zEv.lift 1 (fun _ => by with_unfolding_all rfl) hk
set_option maxRecDepth 100000 in
theorem zin_10_X6_init_p4 (Ln : Nat) (xs : Nat → Int32) {r : zRs} (hk : zEv 34 25 3 126 [some (.ref 35), some (.ref 11)] [.ref 38, .ref 35] (39, ziC38, (ziL27 Ln), ziF49, ziI29, (ziA26 xs)) r) : zEv 34 20 2 66 [some (.ref 35), some (.ref 11)] [] (38, ziC37, (ziL26 Ln), ziF49, ziI29, (ziA25 xs)) r :=
  zEv.lift 3 (fun _ => by with_unfolding_all rfl) hk
set_option maxRecDepth 100000 in
theorem zin_10_X6_init_p5 (Ln : Nat) (xs : Nat → Int32) {r : zRs} (hk : zEv 34 28 3 126 [some (.ref 35), some (.ref 11)] [] (39, ziC38, (ziL27 Ln), ziF50, ziI29, (ziA26 xs)) r) : zEv 34 25 3 126 [some (.ref 35), some (.ref 11)] [.ref 38, .ref 35] (39, ziC38, (ziL27 Ln), ziF49, ziI29, (ziA26 xs)) r :=
  zEv.lift 1 (fun _ => by with_unfolding_all rfl) hk
set_option maxRecDepth 100000 in
theorem zin_10_X6_init_p6 (Ln : Nat) (xs : Nat → Int32) {r : zRs} (hk : zEv 34 33 4 186 [some (.ref 35), some (.ref 11)] [.ref 39, .ref 35] (40, ziC39, (ziL28 Ln), ziF50, ziI29, (ziA27 xs)) r) : zEv 34 28 3 126 [some (.ref 35), some (.ref 11)] [] (39, ziC38, (ziL27 Ln), ziF50, ziI29, (ziA26 xs)) r :=
  zEv.lift 3 (fun _ => by with_unfolding_all rfl) hk
set_option maxRecDepth 100000 in
theorem zin_10_X6_init_p7 (Ln : Nat) (xs : Nat → Int32) {r : zRs} (hk : zEv 34 36 4 186 [some (.ref 35), some (.ref 11)] [] (40, ziC39, (ziL28 Ln), ziF51, ziI29, (ziA27 xs)) r) : zEv 34 33 4 186 [some (.ref 35), some (.ref 11)] [.ref 39, .ref 35] (40, ziC39, (ziL28 Ln), ziF50, ziI29, (ziA27 xs)) r :=
  zEv.lift 1 (fun _ => by with_unfolding_all rfl) hk
set_option maxRecDepth 100000 in
theorem zin_10_X6_init_p8 (Ln : Nat) (xs : Nat → Int32) {r : zRs} (hk : zEv 34 41 5 192 [some (.ref 35), some (.ref 11)] [.ref 40, .ref 35] (41, ziC40, (ziL29 Ln), ziF51, ziI29, (ziA28 xs)) r) : zEv 34 36 4 186 [some (.ref 35), some (.ref 11)] [] (40, ziC39, (ziL28 Ln), ziF51, ziI29, (ziA27 xs)) r :=
  zEv.lift 3 (fun _ => by with_unfolding_all rfl) hk
set_option maxRecDepth 100000 in
theorem zin_10_X6_init_p9 (Ln : Nat) (xs : Nat → Int32) {r : zRs} (hk : zEv 34 44 5 192 [some (.ref 35), some (.ref 11)] [] (41, ziC40, (ziL29 Ln), ziF52, ziI29, (ziA28 xs)) r) : zEv 34 41 5 192 [some (.ref 35), some (.ref 11)] [.ref 40, .ref 35] (41, ziC40, (ziL29 Ln), ziF51, ziI29, (ziA28 xs)) r :=
  zEv.lift 1 (fun _ => by with_unfolding_all rfl) hk
set_option maxRecDepth 100000 in
theorem zin_10_X6_init_p10 (Ln : Nat) (xs : Nat → Int32) {r : zRs} (hk : zEv 34 49 6 198 [some (.ref 35), some (.ref 11)] [.ref 41, .ref 35] (42, ziC41, (ziL30 Ln), ziF52, ziI29, (ziA29 xs)) r) : zEv 34 44 5 192 [some (.ref 35), some (.ref 11)] [] (41, ziC40, (ziL29 Ln), ziF52, ziI29, (ziA28 xs)) r :=
  zEv.lift 3 (fun _ => by with_unfolding_all rfl) hk
set_option maxRecDepth 100000 in
theorem zin_10_X6_init_p11 (Ln : Nat) (xs : Nat → Int32) {r : zRs} (hk : zEv 34 52 6 198 [some (.ref 35), some (.ref 11)] [] (42, ziC41, (ziL30 Ln), ziF53, ziI29, (ziA29 xs)) r) : zEv 34 49 6 198 [some (.ref 35), some (.ref 11)] [.ref 41, .ref 35] (42, ziC41, (ziL30 Ln), ziF52, ziI29, (ziA29 xs)) r :=
  zEv.lift 1 (fun _ => by with_unfolding_all rfl) hk
set_option maxRecDepth 100000 in
theorem zin_10_X6_init_p12 (Ln : Nat) (xs : Nat → Int32) {r : zRs} (hk : zEv 34 57 6 198 [some (.ref 35), some (.ref 11)] [] (42, ziC41, (ziL30 Ln), ziF54, ziI29, (ziA29 xs)) r) : zEv 34 52 6 198 [some (.ref 35), some (.ref 11)] [] (42, ziC41, (ziL30 Ln), ziF53, ziI29, (ziA29 xs)) r :=
  zEv.lift 3 (fun _ => by with_unfolding_all rfl) hk
set_option maxRecDepth 100000 in
theorem zin_10_X6_init (Ln : Nat) (xs : Nat → Int32) : zEv 34 0 0 0 [some (.ref 35), some (.ref 11)] [] (36, ziC35, (ziL24 Ln), ziF47, ziI29, (ziA23 xs)) (none, (42, ziC41, (ziL30 Ln), ziF54, ziI29, (ziA29 xs))) := (zin_10_X6_init_p0 Ln xs (zin_10_X6_init_p1 Ln xs (zin_10_X6_init_p2 Ln xs (zin_10_X6_init_p3 Ln xs (zin_10_X6_init_p4 Ln xs (zin_10_X6_init_p5 Ln xs (zin_10_X6_init_p6 Ln xs (zin_10_X6_init_p7 Ln xs (zin_10_X6_init_p8 Ln xs (zin_10_X6_init_p9 Ln xs (zin_10_X6_init_p10 Ln xs (zin_10_X6_init_p11 Ln xs (zin_10_X6_init_p12 Ln xs (zEv.ret rfl))))))))))))))
set_option maxRecDepth 100000 in
theorem zin_11_X7_init_p0 (Ln : Nat) (xs : Nat → Int32) {r : zRs} (hk : zEv 45 8 1 4 [some (.ref 1), none, none] [.ref 2] (3, ziC2, (ziL1 Ln), ziF2, ziI1, (ziA0 xs)) r) : zEv 45 0 0 0 [some (.ref 1), none, none] [] (2, ziC1, (ziL0 Ln), ziF1, ziI1, (ziA0 xs)) r :=
  zEv.lift 4 (fun _ => by with_unfolding_all rfl) hk
set_option maxRecDepth 100000 in
theorem zin_11_X7_init_p1 (Ln : Nat) (xs : Nat → Int32) {r : zRs} (hk : zEv 45 21 2 8 [some (.ref 1), some (.ref 2), some (.int 0)] [.ref 3, .int 0, .ref 2] (4, ziC3, (ziL1 Ln), ziF3, ziI2, (ziA0 xs)) r) : zEv 45 8 1 4 [some (.ref 1), none, none] [.ref 2] (3, ziC2, (ziL1 Ln), ziF2, ziI1, (ziA0 xs)) r :=
  zEv.lift 9 (fun _ => by with_unfolding_all rfl) hk
set_option maxRecDepth 100000 in
theorem zin_11_X7_init_p2 (Ln : Nat) (xs : Nat → Int32) {r : zRs} (hk : zEv 45 22 2 8 [some (.ref 1), some (.ref 2), some (.int 0)] [.ref 3, .ref 3, .int 0, .ref 2] (4, ziC3, (ziL1 Ln), ziF3, ziI2, (ziA0 xs)) r) : zEv 45 21 2 8 [some (.ref 1), some (.ref 2), some (.int 0)] [.ref 3, .int 0, .ref 2] (4, ziC3, (ziL1 Ln), ziF3, ziI2, (ziA0 xs)) r :=
  zEv.lift 1 (fun _ => by with_unfolding_all rfl) hk
set_option maxRecDepth 100000 in
theorem zin_11_X7_init_p3 (Ln : Nat) (xs : Nat → Int32) {r : zRs} (hk : zEv 45 25 3 68 [some (.ref 1), some (.ref 2), some (.int 0)] [.ref 3, .int 0, .ref 2] (5, ziC4, (ziL2 Ln), ziF4, ziI5, (ziA1 xs)) r) : zEv 45 22 2 8 [some (.ref 1), some (.ref 2), some (.int 0)] [.ref 3, .ref 3, .int 0, .ref 2] (4, ziC3, (ziL1 Ln), ziF3, ziI2, (ziA0 xs)) r :=
  zEv.call (as := [.ref 3]) (q := (none, (5, ziC4, (ziL2 Ln), ziF4, ziI5, (ziA1 xs)))) rfl (fun _ => rfl) (Nat.le_of_ble_eq_true rfl) (zin_1_X4_init Ln xs) hk
set_option maxRecDepth 100000 in
theorem zin_11_X7_init_p4 (Ln : Nat) (xs : Nat → Int32) {r : zRs} (hk : zEv 45 26 3 68 [some (.ref 1), some (.ref 2), some (.int 0)] [] (5, ziC4, (ziL2 Ln), ziF5, ziI5, (ziA1 xs)) r) : zEv 45 25 3 68 [some (.ref 1), some (.ref 2), some (.int 0)] [.ref 3, .int 0, .ref 2] (5, ziC4, (ziL2 Ln), ziF4, ziI5, (ziA1 xs)) r :=
  zEv.lift 1 (fun _ => by with_unfolding_all rfl) hk
set_option maxRecDepth 100000 in
theorem zin_11_X7_init_p5 (Ln : Nat) (xs : Nat → Int32) {r : zRs} (hk : zEv 45 21 4 72 [some (.ref 1), some (.ref 2), some (.int 1)] [.ref 5, .int 1, .ref 2] (6, ziC5, (ziL2 Ln), ziF6, ziI6, (ziA1 xs)) r) : zEv 45 26 3 68 [some (.ref 1), some (.ref 2), some (.int 0)] [] (5, ziC4, (ziL2 Ln), ziF5, ziI5, (ziA1 xs)) r :=
  zEv.lift 8 (fun _ => by with_unfolding_all rfl) hk
set_option maxRecDepth 100000 in
theorem zin_11_X7_init_p6 (Ln : Nat) (xs : Nat → Int32) {r : zRs} (hk : zEv 45 22 4 72 [some (.ref 1), some (.ref 2), some (.int 1)] [.ref 5, .ref 5, .int 1, .ref 2] (6, ziC5, (ziL2 Ln), ziF6, ziI6, (ziA1 xs)) r) : zEv 45 21 4 72 [some (.ref 1), some (.ref 2), some (.int 1)] [.ref 5, .int 1, .ref 2] (6, ziC5, (ziL2 Ln), ziF6, ziI6, (ziA1 xs)) r :=
  zEv.lift 1 (fun _ => by with_unfolding_all rfl) hk
set_option maxRecDepth 100000 in
theorem zin_11_X7_init_p7 (Ln : Nat) (xs : Nat → Int32) {r : zRs} (hk : zEv 45 25 5 132 [some (.ref 1), some (.ref 2), some (.int 1)] [.ref 5, .int 1, .ref 2] (7, ziC6, (ziL3 Ln), ziF7, ziI9, (ziA2 xs)) r) : zEv 45 22 4 72 [some (.ref 1), some (.ref 2), some (.int 1)] [.ref 5, .ref 5, .int 1, .ref 2] (6, ziC5, (ziL2 Ln), ziF6, ziI6, (ziA1 xs)) r :=
  zEv.call (as := [.ref 5]) (q := (none, (7, ziC6, (ziL3 Ln), ziF7, ziI9, (ziA2 xs)))) rfl (fun _ => rfl) (Nat.le_of_ble_eq_true rfl) (zin_2_X4_init Ln xs) hk
set_option maxRecDepth 100000 in
theorem zin_11_X7_init_p8 (Ln : Nat) (xs : Nat → Int32) {r : zRs} (hk : zEv 45 26 5 132 [some (.ref 1), some (.ref 2), some (.int 1)] [] (7, ziC6, (ziL3 Ln), ziF8, ziI9, (ziA2 xs)) r) : zEv 45 25 5 132 [some (.ref 1), some (.ref 2), some (.int 1)] [.ref 5, .int 1, .ref 2] (7, ziC6, (ziL3 Ln), ziF7, ziI9, (ziA2 xs)) r :=
  zEv.lift 1 (fun _ => by with_unfolding_all rfl) hk
set_option maxRecDepth 100000 in
theorem zin_11_X7_init_p9 (Ln : Nat) (xs : Nat → Int32) {r : zRs} (hk : zEv 45 21 6 136 [some (.ref 1), some (.ref 2), some (.int 2)] [.ref 7, .int 2, .ref 2] (8, ziC7, (ziL3 Ln), ziF9, ziI10, (ziA2 xs)) r) : zEv 45 26 5 132 [some (.ref 1), some (.ref 2), some (.int 1)] [] (7, ziC6, (ziL3 Ln), ziF8, ziI9, (ziA2 xs)) r :=
  zEv.lift 8 (fun _ => by with_unfolding_all rfl) hk
set_option maxRecDepth 100000 in
theorem zin_11_X7_init_p10 (Ln : Nat) (xs : Nat → Int32) {r : zRs} (hk : zEv 45 22 6 136 [some (.ref 1), some (.ref 2), some (.int 2)] [.ref 7, .ref 7, .int 2, .ref 2] (8, ziC7, (ziL3 Ln), ziF9, ziI10, (ziA2 xs)) r) : zEv 45 21 6 136 [some (.ref 1), some (.ref 2), some (.int 2)] [.ref 7, .int 2, .ref 2] (8, ziC7, (ziL3 Ln), ziF9, ziI10, (ziA2 xs)) r :=
  zEv.lift 1 (fun _ => by with_unfolding_all rfl) hk
set_option maxRecDepth 100000 in
theorem zin_11_X7_init_p11 (Ln : Nat) (xs : Nat → Int32) {r : zRs} (hk : zEv 45 25 7 196 [some (.ref 1), some (.ref 2), some (.int 2)] [.ref 7, .int 2, .ref 2] (9, ziC8, (ziL4 Ln), ziF10, ziI13, (ziA3 xs)) r) : zEv 45 22 6 136 [some (.ref 1), some (.ref 2), some (.int 2)] [.ref 7, .ref 7, .int 2, .ref 2] (8, ziC7, (ziL3 Ln), ziF9, ziI10, (ziA2 xs)) r :=
  zEv.call (as := [.ref 7]) (q := (none, (9, ziC8, (ziL4 Ln), ziF10, ziI13, (ziA3 xs)))) rfl (fun _ => rfl) (Nat.le_of_ble_eq_true rfl) (zin_3_X4_init Ln xs) hk
set_option maxRecDepth 100000 in
theorem zin_11_X7_init_p12 (Ln : Nat) (xs : Nat → Int32) {r : zRs} (hk : zEv 45 26 7 196 [some (.ref 1), some (.ref 2), some (.int 2)] [] (9, ziC8, (ziL4 Ln), ziF11, ziI13, (ziA3 xs)) r) : zEv 45 25 7 196 [some (.ref 1), some (.ref 2), some (.int 2)] [.ref 7, .int 2, .ref 2] (9, ziC8, (ziL4 Ln), ziF10, ziI13, (ziA3 xs)) r :=
  zEv.lift 1 (fun _ => by with_unfolding_all rfl) hk
set_option maxRecDepth 100000 in
theorem zin_11_X7_init_p13 (Ln : Nat) (xs : Nat → Int32) {r : zRs} (hk : zEv 45 21 8 200 [some (.ref 1), some (.ref 2), some (.int 3)] [.ref 9, .int 3, .ref 2] (10, ziC9, (ziL4 Ln), ziF12, ziI14, (ziA3 xs)) r) : zEv 45 26 7 196 [some (.ref 1), some (.ref 2), some (.int 2)] [] (9, ziC8, (ziL4 Ln), ziF11, ziI13, (ziA3 xs)) r :=
  zEv.lift 8 (fun _ => by with_unfolding_all rfl) hk
set_option maxRecDepth 100000 in
theorem zin_11_X7_init_p14 (Ln : Nat) (xs : Nat → Int32) {r : zRs} (hk : zEv 45 22 8 200 [some (.ref 1), some (.ref 2), some (.int 3)] [.ref 9, .ref 9, .int 3, .ref 2] (10, ziC9, (ziL4 Ln), ziF12, ziI14, (ziA3 xs)) r) : zEv 45 21 8 200 [some (.ref 1), some (.ref 2), some (.int 3)] [.ref 9, .int 3, .ref 2] (10, ziC9, (ziL4 Ln), ziF12, ziI14, (ziA3 xs)) r :=
  zEv.lift 1 (fun _ => by with_unfolding_all rfl) hk
set_option maxRecDepth 100000 in
theorem zin_11_X7_init_p15 (Ln : Nat) (xs : Nat → Int32) {r : zRs} (hk : zEv 45 25 9 260 [some (.ref 1), some (.ref 2), some (.int 3)] [.ref 9, .int 3, .ref 2] (11, ziC10, (ziL5 Ln), ziF13, ziI17, (ziA4 xs)) r) : zEv 45 22 8 200 [some (.ref 1), some (.ref 2), some (.int 3)] [.ref 9, .ref 9, .int 3, .ref 2] (10, ziC9, (ziL4 Ln), ziF12, ziI14, (ziA3 xs)) r :=
  zEv.call (as := [.ref 9]) (q := (none, (11, ziC10, (ziL5 Ln), ziF13, ziI17, (ziA4 xs)))) rfl (fun _ => rfl) (Nat.le_of_ble_eq_true rfl) (zin_4_X4_init Ln xs) hk
set_option maxRecDepth 100000 in
theorem zin_11_X7_init_p16 (Ln : Nat) (xs : Nat → Int32) {r : zRs} (hk : zEv 45 26 9 260 [some (.ref 1), some (.ref 2), some (.int 3)] [] (11, ziC10, (ziL5 Ln), ziF14, ziI17, (ziA4 xs)) r) : zEv 45 25 9 260 [some (.ref 1), some (.ref 2), some (.int 3)] [.ref 9, .int 3, .ref 2] (11, ziC10, (ziL5 Ln), ziF13, ziI17, (ziA4 xs)) r :=
  zEv.lift 1 (fun _ => by with_unfolding_all rfl) hk
set_option maxRecDepth 100000 in
theorem zin_11_X7_init_p17 (Ln : Nat) (xs : Nat → Int32) {r : zRs} (hk : zEv 45 35 10 270 [some (.ref 1), some (.ref 2), some (.int 4)] [.ref 11] (12, ziC11, (ziL5 Ln), ziF15, ziI18, (ziA4 xs)) r) : zEv 45 26 9 260 [some (.ref 1), some (.ref 2), some (.int 3)] [] (11, ziC10, (ziL5 Ln), ziF14, ziI17, (ziA4 xs)) r :=
  zEv.lift 6 (fun _ => by with_unfolding_all rfl) hk
set_option maxRecDepth 100000 in
theorem zin_11_X7_init_p18 (Ln : Nat) (xs : Nat → Int32) {r : zRs} (hk : zEv 45 36 10 270 [some (.ref 1), some (.ref 2), some (.int 4)] [.ref 11, .ref 11] (12, ziC11, (ziL5 Ln), ziF15, ziI18, (ziA4 xs)) r) : zEv 45 35 10 270 [some (.ref 1), some (.ref 2), some (.int 4)] [.ref 11] (12, ziC11, (ziL5 Ln), ziF15, ziI18, (ziA4 xs)) r :=
  zEv.lift 1 (fun _ => by with_unfolding_all rfl) hk
set_option maxRecDepth 100000 in
theorem zin_11_X7_init_p19 (Ln : Nat) (xs : Nat → Int32) {r : zRs} (hk : zEv 45 39 16 418 [some (.ref 1), some (.ref 2), some (.int 4)] [.ref 11] (18, ziC17, (ziL11 Ln), ziF21, ziI22, (ziA10 xs)) r) : zEv 45 36 10 270 [some (.ref 1), some (.ref 2), some (.int 4)] [.ref 11, .ref 11] (12, ziC11, (ziL5 Ln), ziF15, ziI18, (ziA4 xs)) r :=
  zEv.call (as := [.ref 11]) (q := (none, (18, ziC17, (ziL11 Ln), ziF21, ziI22, (ziA10 xs)))) rfl (fun _ => rfl) (Nat.le_of_ble_eq_true rfl) (zin_5_X0_init Ln xs) hk
set_option maxRecDepth 100000 in
theorem zin_11_X7_init_p20 (Ln : Nat) (xs : Nat → Int32) {r : zRs} (hk : zEv 45 45 16 418 [some (.ref 1), some (.ref 2), some (.ref 11)] [] (18, ziC17, (ziL11 Ln), ziF22, ziI22, (ziA10 xs)) r) : zEv 45 39 16 418 [some (.ref 1), some (.ref 2), some (.int 4)] [.ref 11] (18, ziC17, (ziL11 Ln), ziF21, ziI22, (ziA10 xs)) r :=
  zEv.lift 4 (fun _ => by with_unfolding_all rfl) hk
set_option maxRecDepth 100000 in
theorem zin_11_X7_init_p21 (Ln : Nat) (xs : Nat → Int32) {r : zRs} (hk : zEv 45 50 16 418 [some (.ref 1), some (.ref 2), some (.ref 11)] [] (18, ziC17, (ziL11 Ln), ziF23, ziI22, (ziA10 xs)) r) : zEv 45 45 16 418 [some (.ref 1), some (.ref 2), some (.ref 11)] [] (18, ziC17, (ziL11 Ln), ziF22, ziI22, (ziA10 xs)) r :=
  zEv.lift 3 (fun _ => by with_unfolding_all rfl) hk
set_option maxRecDepth 100000 in
theorem zin_11_X7_init_p22 (Ln : Nat) (xs : Nat → Int32) {r : zRs} (hk : zEv 45 54 17 422 [some (.ref 1), some (.ref 2), some (.ref 11)] [.ref 18, .ref 1] (19, ziC18, (ziL11 Ln), ziF24, ziI23, (ziA10 xs)) r) : zEv 45 50 16 418 [some (.ref 1), some (.ref 2), some (.ref 11)] [] (18, ziC17, (ziL11 Ln), ziF23, ziI22, (ziA10 xs)) r :=
  zEv.lift 2 (fun _ => by with_unfolding_all rfl) hk
set_option maxRecDepth 100000 in
theorem zin_11_X7_init_p23 (Ln : Nat) (xs : Nat → Int32) {r : zRs} (hk : zEv 45 55 17 422 [some (.ref 1), some (.ref 2), some (.ref 11)] [.ref 18, .ref 18, .ref 1] (19, ziC18, (ziL11 Ln), ziF24, ziI23, (ziA10 xs)) r) : zEv 45 54 17 422 [some (.ref 1), some (.ref 2), some (.ref 11)] [.ref 18, .ref 1] (19, ziC18, (ziL11 Ln), ziF24, ziI23, (ziA10 xs)) r :=
  zEv.lift 1 (fun _ => by with_unfolding_all rfl) hk
set_option maxRecDepth 100000 in
theorem zin_11_X7_init_p24 (Ln : Nat) (xs : Nat → Int32) {r : zRs} (hk : zEv 45 58 20 440 [some (.ref 1), some (.ref 2), some (.ref 11)] [.ref 18, .ref 1] (22, ziC21, (ziL14 Ln), ziF27, ziI24, (ziA13 xs)) r) : zEv 45 55 17 422 [some (.ref 1), some (.ref 2), some (.ref 11)] [.ref 18, .ref 18, .ref 1] (19, ziC18, (ziL11 Ln), ziF24, ziI23, (ziA10 xs)) r :=
  zEv.call (as := [.ref 18]) (q := (none, (22, ziC21, (ziL14 Ln), ziF27, ziI24, (ziA13 xs)))) rfl (fun _ => rfl) (Nat.le_of_ble_eq_true rfl) (zin_6_X2_init Ln xs) hk
set_option maxRecDepth 100000 in
theorem zin_11_X7_init_p25 (Ln : Nat) (xs : Nat → Int32) {r : zRs} (hk : zEv 45 61 20 440 [some (.ref 1), some (.ref 2), some (.ref 11)] [] (22, ziC21, (ziL14 Ln), ziF28, ziI24, (ziA13 xs)) r) : zEv 45 58 20 440 [some (.ref 1), some (.ref 2), some (.ref 11)] [.ref 18, .ref 1] (22, ziC21, (ziL14 Ln), ziF27, ziI24, (ziA13 xs)) r :=
  zEv.lift 1 (fun _ => by with_unfolding_all rfl) hk
set_option maxRecDepth 100000 in
theorem zin_11_X7_init_p26 (Ln : Nat) (xs : Nat → Int32) {r : zRs} (hk : zEv 45 65 21 444 [some (.ref 1), some (.ref 2), some (.ref 11)] [.ref 22, .ref 1] (23, ziC22, (ziL14 Ln), ziF29, ziI25, (ziA13 xs)) r) : zEv 45 61 20 440 [some (.ref 1), some (.ref 2), some (.ref 11)] [] (22, ziC21, (ziL14 Ln), ziF28, ziI24, (ziA13 xs)) r :=
  zEv.lift 2 (fun _ => by with_unfolding_all rfl) hk
set_option maxRecDepth 100000 in
theorem zin_11_X7_init_p27 (Ln : Nat) (xs : Nat → Int32) {r : zRs} (hk : zEv 45 66 21 444 [some (.ref 1), some (.ref 2), some (.ref 11)] [.ref 22, .ref 22, .ref 1] (23, ziC22, (ziL14 Ln), ziF29, ziI25, (ziA13 xs)) r) : zEv 45 65 21 444 [some (.ref 1), some (.ref 2), some (.ref 11)] [.ref 22, .ref 1] (23, ziC22, (ziL14 Ln), ziF29, ziI25, (ziA13 xs)) r :=
  zEv.lift 1 (fun _ => by with_unfolding_all rfl) hk
set_option maxRecDepth 100000 in
theorem zin_11_X7_init_p28 (Ln : Nat) (xs : Nat → Int32) {r : zRs} (hk : zEv 45 69 24 462 [some (.ref 1), some (.ref 2), some (.ref 11)] [.ref 22, .ref 1] (26, ziC25, (ziL17 Ln), ziF32, ziI26, (ziA16 xs)) r) : zEv 45 66 21 444 [some (.ref 1), some (.ref 2), some (.ref 11)] [.ref 22, .ref 22, .ref 1] (23, ziC22, (ziL14 Ln), ziF29, ziI25, (ziA13 xs)) r :=
  zEv.call (as := [.ref 22]) (q := (none, (26, ziC25, (ziL17 Ln), ziF32, ziI26, (ziA16 xs)))) rfl (fun _ => rfl) (Nat.le_of_ble_eq_true rfl) (zin_7_X3_init Ln xs) hk
set_option maxRecDepth 100000 in
theorem zin_11_X7_init_p29 (Ln : Nat) (xs : Nat → Int32) {r : zRs} (hk : zEv 45 72 24 462 [some (.ref 1), some (.ref 2), some (.ref 11)] [] (26, ziC25, (ziL17 Ln), ziF33, ziI26, (ziA16 xs)) r) : zEv 45 69 24 462 [some (.ref 1), some (.ref 2), some (.ref 11)] [.ref 22, .ref 1] (26, ziC25, (ziL17 Ln), ziF32, ziI26, (ziA16 xs)) r :=
  zEv.lift 1 (fun _ => by with_unfolding_all rfl) hk
set_option maxRecDepth 100000 in
theorem zin_11_X7_init_p30 (Ln : Nat) (xs : Nat → Int32) {r : zRs} (hk : zEv 45 76 25 464 [some (.ref 1), some (.ref 2), some (.ref 11)] [.ref 26, .ref 1] (27, ziC26, (ziL17 Ln), ziF34, ziI27, (ziA16 xs)) r) : zEv 45 72 24 462 [some (.ref 1), some (.ref 2), some (.ref 11)] [] (26, ziC25, (ziL17 Ln), ziF33, ziI26, (ziA16 xs)) r :=
  zEv.lift 2 (fun _ => by with_unfolding_all rfl) hk
set_option maxRecDepth 100000 in
theorem zin_11_X7_init_p31 (Ln : Nat) (xs : Nat → Int32) {r : zRs} (hk : zEv 45 78 25 464 [some (.ref 1), some (.ref 2), some (.ref 11)] [.ref 11, .ref 26, .ref 26, .ref 1] (27, ziC26, (ziL17 Ln), ziF34, ziI27, (ziA16 xs)) r) : zEv 45 76 25 464 [some (.ref 1), some (.ref 2), some (.ref 11)] [.ref 26, .ref 1] (27, ziC26, (ziL17 Ln), ziF34, ziI27, (ziA16 xs)) r :=
  zEv.lift 2 (fun _ => by with_unfolding_all rfl) hk
set_option maxRecDepth 100000 in
theorem zin_11_X7_init_p32 (Ln : Nat) (xs : Nat → Int32) {r : zRs} (hk : zEv 45 81 26 528 [some (.ref 1), some (.ref 2), some (.ref 11)] [.ref 26, .ref 1] (28, ziC27, (ziL18 Ln), ziF36, ziI27, (ziA17 xs)) r) : zEv 45 78 25 464 [some (.ref 1), some (.ref 2), some (.ref 11)] [.ref 11, .ref 26, .ref 26, .ref 1] (27, ziC26, (ziL17 Ln), ziF34, ziI27, (ziA16 xs)) r :=
  zEv.call (as := [.ref 26, .ref 11]) (q := (none, (28, ziC27, (ziL18 Ln), ziF36, ziI27, (ziA17 xs)))) rfl (fun _ => rfl) (Nat.le_of_ble_eq_true rfl) (zin_8_X1_init Ln xs) hk
set_option maxRecDepth 100000 in
theorem zin_11_X7_init_p33 (Ln : Nat) (xs : Nat → Int32) {r : zRs} (hk : zEv 45 84 26 528 [some (.ref 1), some (.ref 2), some (.ref 11)] [] (28, ziC27, (ziL18 Ln), ziF37, ziI27, (ziA17 xs)) r) : zEv 45 81 26 528 [some (.ref 1), some (.ref 2), some (.ref 11)] [.ref 26, .ref 1] (28, ziC27, (ziL18 Ln), ziF36, ziI27, (ziA17 xs)) r :=
  zEv.lift 1 (fun _ => by with_unfolding_all rfl) hk
set_option maxRecDepth 100000 in
theorem zin_11_X7_init_p34 (Ln : Nat) (xs : Nat → Int32) {r : zRs} (hk : zEv 45 88 27 535 [some (.ref 1), some (.ref 2), some (.ref 11)] [.ref 28, .ref 1] (29, ziC28, (ziL18 Ln), ziF38, ziI28, (ziA17 xs)) r) : zEv 45 84 26 528 [some (.ref 1), some (.ref 2), some (.ref 11)] [] (28, ziC27, (ziL18 Ln), ziF37, ziI27, (ziA17 xs)) r :=
  zEv.lift 2 (fun _ => by with_unfolding_all rfl) hk
set_option maxRecDepth 100000 in
theorem zin_11_X7_init_p35 (Ln : Nat) (xs : Nat → Int32) {r : zRs} (hk : zEv 45 90 27 535 [some (.ref 1), some (.ref 2), some (.ref 11)] [.ref 11, .ref 28, .ref 28, .ref 1] (29, ziC28, (ziL18 Ln), ziF38, ziI28, (ziA17 xs)) r) : zEv 45 88 27 535 [some (.ref 1), some (.ref 2), some (.ref 11)] [.ref 28, .ref 1] (29, ziC28, (ziL18 Ln), ziF38, ziI28, (ziA17 xs)) r :=
  zEv.lift 2 (fun _ => by with_unfolding_all rfl) hk
set_option maxRecDepth 100000 in
theorem zin_11_X7_init_p36 (Ln : Nat) (xs : Nat → Int32) {r : zRs} (hk : zEv 45 93 33 733 [some (.ref 1), some (.ref 2), some (.ref 11)] [.ref 28, .ref 1] (35, ziC34, (ziL24 Ln), ziF45, ziI28, (ziA23 xs)) r) : zEv 45 90 27 535 [some (.ref 1), some (.ref 2), some (.ref 11)] [.ref 11, .ref 28, .ref 28, .ref 1] (29, ziC28, (ziL18 Ln), ziF38, ziI28, (ziA17 xs)) r :=
  zEv.call (as := [.ref 28, .ref 11]) (q := (none, (35, ziC34, (ziL24 Ln), ziF45, ziI28, (ziA23 xs)))) rfl (fun _ => rfl) (Nat.le_of_ble_eq_true rfl) (zin_9_X6_init Ln xs) hk
set_option maxRecDepth 100000 in
theorem zin_11_X7_init_p37 (Ln : Nat) (xs : Nat → Int32) {r : zRs} (hk : zEv 45 96 33 733 [some (.ref 1), some (.ref 2), some (.ref 11)] [] (35, ziC34, (ziL24 Ln), ziF46, ziI28, (ziA23 xs)) r) : zEv 45 93 33 733 [some (.ref 1), some (.ref 2), some (.ref 11)] [.ref 28, .ref 1] (35, ziC34, (ziL24 Ln), ziF45, ziI28, (ziA23 xs)) r :=
  zEv.lift 1 (fun _ => by with_unfolding_all rfl) hk
set_option maxRecDepth 100000 in
theorem zin_11_X7_init_p38 (Ln : Nat) (xs : Nat → Int32) {r : zRs} (hk : zEv 45 100 34 740 [some (.ref 1), some (.ref 2), some (.ref 11)] [.ref 35, .ref 1] (36, ziC35, (ziL24 Ln), ziF47, ziI29, (ziA23 xs)) r) : zEv 45 96 33 733 [some (.ref 1), some (.ref 2), some (.ref 11)] [] (35, ziC34, (ziL24 Ln), ziF46, ziI28, (ziA23 xs)) r :=
  zEv.lift 2 (fun _ => by with_unfolding_all rfl) hk
set_option maxRecDepth 100000 in
theorem zin_11_X7_init_p39 (Ln : Nat) (xs : Nat → Int32) {r : zRs} (hk : zEv 45 102 34 740 [some (.ref 1), some (.ref 2), some (.ref 11)] [.ref 11, .ref 35, .ref 35, .ref 1] (36, ziC35, (ziL24 Ln), ziF47, ziI29, (ziA23 xs)) r) : zEv 45 100 34 740 [some (.ref 1), some (.ref 2), some (.ref 11)] [.ref 35, .ref 1] (36, ziC35, (ziL24 Ln), ziF47, ziI29, (ziA23 xs)) r :=
  zEv.lift 2 (fun _ => by with_unfolding_all rfl) hk
set_option maxRecDepth 100000 in
theorem zin_11_X7_init_p40 (Ln : Nat) (xs : Nat → Int32) {r : zRs} (hk : zEv 45 105 40 938 [some (.ref 1), some (.ref 2), some (.ref 11)] [.ref 35, .ref 1] (42, ziC41, (ziL30 Ln), ziF54, ziI29, (ziA29 xs)) r) : zEv 45 102 34 740 [some (.ref 1), some (.ref 2), some (.ref 11)] [.ref 11, .ref 35, .ref 35, .ref 1] (36, ziC35, (ziL24 Ln), ziF47, ziI29, (ziA23 xs)) r :=
  zEv.call (as := [.ref 35, .ref 11]) (q := (none, (42, ziC41, (ziL30 Ln), ziF54, ziI29, (ziA29 xs)))) rfl (fun _ => rfl) (Nat.le_of_ble_eq_true rfl) (zin_10_X6_init Ln xs) hk
set_option maxRecDepth 100000 in
theorem zin_11_X7_init_p41 (Ln : Nat) (xs : Nat → Int32) {r : zRs} (hk : zEv 45 108 40 938 [some (.ref 1), some (.ref 2), some (.ref 11)] [] (42, ziC41, (ziL30 Ln), ziF55, ziI29, (ziA29 xs)) r) : zEv 45 105 40 938 [some (.ref 1), some (.ref 2), some (.ref 11)] [.ref 35, .ref 1] (42, ziC41, (ziL30 Ln), ziF54, ziI29, (ziA29 xs)) r :=
  zEv.lift 1 (fun _ => by with_unfolding_all rfl) hk
set_option maxRecDepth 100000 in
theorem zin_11_X7_init_p42 (Ln : Nat) (xs : Nat → Int32) {r : zRs} (hk : zEv 45 113 41 944 [some (.ref 1), some (.ref 2), some (.ref 11)] [.ref 42, .ref 1] (43, ziC42, (ziL31 Ln), ziF55, ziI29, (ziA30 xs)) r) : zEv 45 108 40 938 [some (.ref 1), some (.ref 2), some (.ref 11)] [] (42, ziC41, (ziL30 Ln), ziF55, ziI29, (ziA29 xs)) r :=
  zEv.lift 3 (fun _ => by with_unfolding_all rfl) hk
set_option maxRecDepth 100000 in
theorem zin_11_X7_init_p43 (Ln : Nat) (xs : Nat → Int32) {r : zRs} (hk : zEv 45 116 41 944 [some (.ref 1), some (.ref 2), some (.ref 11)] [] (43, ziC42, (ziL31 Ln), ziF56, ziI29, (ziA30 xs)) r) : zEv 45 113 41 944 [some (.ref 1), some (.ref 2), some (.ref 11)] [.ref 42, .ref 1] (43, ziC42, (ziL31 Ln), ziF55, ziI29, (ziA30 xs)) r :=
  zEv.lift 1 (fun _ => by with_unfolding_all rfl) hk
set_option maxRecDepth 100000 in
theorem zin_11_X7_init_p44 (Ln : Nat) (xs : Nat → Int32) {r : zRs} (hk : zEv 45 121 42 950 [some (.ref 1), some (.ref 2), some (.ref 11)] [.ref 43, .ref 1] (44, ziC43, (ziL32 Ln), ziF56, ziI29, (ziA31 xs)) r) : zEv 45 116 41 944 [some (.ref 1), some (.ref 2), some (.ref 11)] [] (43, ziC42, (ziL31 Ln), ziF56, ziI29, (ziA30 xs)) r :=
  zEv.lift 3 (fun _ => by with_unfolding_all rfl) hk
set_option maxRecDepth 100000 in
theorem zin_11_X7_init_p45 (Ln : Nat) (xs : Nat → Int32) {r : zRs} (hk : zEv 45 124 42 950 [some (.ref 1), some (.ref 2), some (.ref 11)] [] (44, ziC43, (ziL32 Ln), ziF57, ziI29, (ziA31 xs)) r) : zEv 45 121 42 950 [some (.ref 1), some (.ref 2), some (.ref 11)] [.ref 43, .ref 1] (44, ziC43, (ziL32 Ln), ziF56, ziI29, (ziA31 xs)) r :=
  zEv.lift 1 (fun _ => by with_unfolding_all rfl) hk
set_option maxRecDepth 100000 in
theorem zin_11_X7_init_p46 (Ln : Nat) (xs : Nat → Int32) {r : zRs} (hk : zEv 45 129 42 950 [some (.ref 1), some (.ref 2), some (.ref 11)] [] (44, ziC43, (ziL32 Ln), ziF57, ziI30, (ziA31 xs)) r) : zEv 45 124 42 950 [some (.ref 1), some (.ref 2), some (.ref 11)] [] (44, ziC43, (ziL32 Ln), ziF57, ziI29, (ziA31 xs)) r :=
  zEv.lift 3 (fun _ => by with_unfolding_all rfl) hk
set_option maxRecDepth 100000 in
theorem zin_11_X7_init_p47 (Ln : Nat) (xs : Nat → Int32) {r : zRs} (hk : zEv 45 134 42 950 [some (.ref 1), some (.ref 2), some (.ref 11)] [] (44, ziC43, (ziL32 Ln), ziF57, ziI31, (ziA31 xs)) r) : zEv 45 129 42 950 [some (.ref 1), some (.ref 2), some (.ref 11)] [] (44, ziC43, (ziL32 Ln), ziF57, ziI30, (ziA31 xs)) r :=
  zEv.lift 3 (fun _ => by with_unfolding_all rfl) hk
set_option maxRecDepth 100000 in
theorem zin_11_X7_init_p48 (Ln : Nat) (xs : Nat → Int32) {r : zRs} (hk : zEv 45 139 42 950 [some (.ref 1), some (.ref 2), some (.ref 11)] [] (44, ziC43, (ziL32 Ln), ziF57, ziI32, (ziA31 xs)) r) : zEv 45 134 42 950 [some (.ref 1), some (.ref 2), some (.ref 11)] [] (44, ziC43, (ziL32 Ln), ziF57, ziI31, (ziA31 xs)) r :=
  zEv.lift 3 (fun _ => by with_unfolding_all rfl) hk
set_option maxRecDepth 100000 in
theorem zin_11_X7_init (Ln : Nat) (xs : Nat → Int32) : zEv 45 0 0 0 [some (.ref 1), none, none] [] (2, ziC1, (ziL0 Ln), ziF1, ziI1, (ziA0 xs)) (none, (44, ziC43, (ziL32 Ln), ziF57, ziI32, (ziA31 xs))) := (zin_11_X7_init_p0 Ln xs (zin_11_X7_init_p1 Ln xs (zin_11_X7_init_p2 Ln xs (zin_11_X7_init_p3 Ln xs (zin_11_X7_init_p4 Ln xs (zin_11_X7_init_p5 Ln xs (zin_11_X7_init_p6 Ln xs (zin_11_X7_init_p7 Ln xs (zin_11_X7_init_p8 Ln xs (zin_11_X7_init_p9 Ln xs (zin_11_X7_init_p10 Ln xs (zin_11_X7_init_p11 Ln xs (zin_11_X7_init_p12 Ln xs (zin_11_X7_init_p13 Ln xs (zin_11_X7_init_p14 Ln xs (zin_11_X7_init_p15 Ln xs (zin_11_X7_init_p16 Ln xs (zin_11_X7_init_p17 Ln xs (zin_11_X7_init_p18 Ln xs (zin_11_X7_init_p19 Ln xs (zin_11_X7_init_p20 Ln xs (zin_11_X7_init_p21 Ln xs (zin_11_X7_init_p22 Ln xs (zin_11_X7_init_p23 Ln xs (zin_11_X7_init_p24 Ln xs (zin_11_X7_init_p25 Ln xs (zin_11_X7_init_p26 Ln xs (zin_11_X7_init_p27 Ln xs (zin_11_X7_init_p28 Ln xs (zin_11_X7_init_p29 Ln xs (zin_11_X7_init_p30 Ln xs (zin_11_X7_init_p31 Ln xs (zin_11_X7_init_p32 Ln xs (zin_11_X7_init_p33 Ln xs (zin_11_X7_init_p34 Ln xs (zin_11_X7_init_p35 Ln xs (zin_11_X7_init_p36 Ln xs (zin_11_X7_init_p37 Ln xs (zin_11_X7_init_p38 Ln xs (zin_11_X7_init_p39 Ln xs (zin_11_X7_init_p40 Ln xs (zin_11_X7_init_p41 Ln xs (zin_11_X7_init_p42 Ln xs (zin_11_X7_init_p43 Ln xs (zin_11_X7_init_p44 Ln xs (zin_11_X7_init_p45 Ln xs (zin_11_X7_init_p46 Ln xs (zin_11_X7_init_p47 Ln xs (zin_11_X7_init_p48 Ln xs (zEv.ret rfl))))))))))))))))))))))))))))))))))))))))))))))))))
set_option maxRecDepth 100000 in
theorem zin_12_X8_init_p0 (Ln : Nat) (xs : Nat → Int32) {r : zRs} (hk : zEv 93 9 1 6 [some (.ref 44), none] [.ref 45, .ref 44] (46, ziC45, (ziL33 Ln), ziF58, ziI33, (ziA32 xs)) r) : zEv 93 0 0 0 [some (.ref 44), none] [] (45, ziC44, (ziL32 Ln), ziF58, ziI33, (ziA31 xs)) r :=
  zEv.lift 5 (fun _ => by with_unfolding_all rfl) hk
set_option maxRecDepth 100000 in
theorem zin_12_X8_init_p1 (Ln : Nat) (xs : Nat → Int32) {r : zRs} (hk : zEv 93 12 1 6 [some (.ref 44), none] [] (46, ziC45, (ziL33 Ln), ziF59, ziI33, (ziA32 xs)) r) : zEv 93 9 1 6 [some (.ref 44), none] [.ref 45, .ref 44] (46, ziC45, (ziL33 Ln), ziF58, ziI33, (ziA32 xs)) r :=
  zEv.lift 1 (fun _ => by with_unfolding_all rfl) hk
set_option maxRecDepth 100000 in
theorem zin_12_X8_init_p2 (Ln : Nat) (xs : Nat → Int32) {r : zRs} (hk : zEv 93 17 2 12 [some (.ref 44), none] [.ref 46, .ref 44] (47, ziC46, (ziL34 Ln), ziF59, ziI33, (ziA33 xs)) r) : zEv 93 12 1 6 [some (.ref 44), none] [] (46, ziC45, (ziL33 Ln), ziF59, ziI33, (ziA32 xs)) r :=
  zEv.lift 3 (fun _ => by with_unfolding_all rfl) hk
set_option maxRecDepth 100000 in
theorem zin_12_X8_init_p3 (Ln : Nat) (xs : Nat → Int32) {r : zRs} (hk : zEv 93 20 2 12 [some (.ref 44), none] [] (47, ziC46, (ziL34 Ln), ziF60, ziI33, (ziA33 xs)) r) : zEv 93 17 2 12 [some (.ref 44), none] [.ref 46, .ref 44] (47, ziC46, (ziL34 Ln), ziF59, ziI33, (ziA33 xs)) r :=
  zEv.lift 1 (fun _ => by with_unfolding_all rfl) hk
set_option maxRecDepth 100000 in
theorem zin_12_X8_init_p4 (Ln : Nat) (xs : Nat → Int32) {r : zRs} (hk : zEv 93 25 3 18 [some (.ref 44), none] [.ref 47, .ref 44] (48, ziC47, (ziL35 Ln), ziF60, ziI33, (ziA34 xs)) r) : zEv 93 20 2 12 [some (.ref 44), none] [] (47, ziC46, (ziL34 Ln), ziF60, ziI33, (ziA33 xs)) r :=
  zEv.lift 3 (fun _ => by with_unfolding_all rfl) hk
set_option maxRecDepth 100000 in
theorem zin_12_X8_init_p5 (Ln : Nat) (xs : Nat → Int32) {r : zRs} (hk : zEv 93 28 3 18 [some (.ref 44), none] [] (48, ziC47, (ziL35 Ln), ziF61, ziI33, (ziA34 xs)) r) : zEv 93 25 3 18 [some (.ref 44), none] [.ref 47, .ref 44] (48, ziC47, (ziL35 Ln), ziF60, ziI33, (ziA34 xs)) r :=
  zEv.lift 1 (fun _ => by with_unfolding_all rfl) hk
set_option maxRecDepth 100000 in
theorem zin_12_X8_init_p6 (Ln : Nat) (xs : Nat → Int32) {r : zRs} (hk : zEv 93 33 4 24 [some (.ref 44), none] [.ref 48, .ref 44] (49, ziC48, (ziL36 Ln), ziF61, ziI33, (ziA35 xs)) r) : zEv 93 28 3 18 [some (.ref 44), none] [] (48, ziC47, (ziL35 Ln), ziF61, ziI33, (ziA34 xs)) r :=
  zEv.lift 3 (fun _ => by with_unfolding_all rfl) hk
set_option maxRecDepth 100000 in
theorem zin_12_X8_init_p7 (Ln : Nat) (xs : Nat → Int32) {r : zRs} (hk : zEv 93 36 4 24 [some (.ref 44), none] [] (49, ziC48, (ziL36 Ln), ziF62, ziI33, (ziA35 xs)) r) : zEv 93 33 4 24 [some (.ref 44), none] [.ref 48, .ref 44] (49, ziC48, (ziL36 Ln), ziF61, ziI33, (ziA35 xs)) r :=
  zEv.lift 1 (fun _ => by with_unfolding_all rfl) hk
set_option maxRecDepth 100000 in
theorem zin_12_X8_init_p8 (Ln : Nat) (xs : Nat → Int32) {r : zRs} (hk : zEv 93 41 5 30 [some (.ref 44), none] [.ref 49, .ref 44] (50, ziC49, (ziL37 Ln), ziF62, ziI33, (ziA36 xs)) r) : zEv 93 36 4 24 [some (.ref 44), none] [] (49, ziC48, (ziL36 Ln), ziF62, ziI33, (ziA35 xs)) r :=
  zEv.lift 3 (fun _ => by with_unfolding_all rfl) hk
set_option maxRecDepth 100000 in
theorem zin_12_X8_init_p9 (Ln : Nat) (xs : Nat → Int32) {r : zRs} (hk : zEv 93 44 5 30 [some (.ref 44), none] [] (50, ziC49, (ziL37 Ln), ziF63, ziI33, (ziA36 xs)) r) : zEv 93 41 5 30 [some (.ref 44), none] [.ref 49, .ref 44] (50, ziC49, (ziL37 Ln), ziF62, ziI33, (ziA36 xs)) r :=
  zEv.lift 1 (fun _ => by with_unfolding_all rfl) hk
set_option maxRecDepth 100000 in
theorem zin_12_X8_init_p10 (Ln : Nat) (xs : Nat → Int32) {r : zRs} (hk : zEv 93 49 6 36 [some (.ref 44), none] [.ref 50, .ref 44] (51, ziC50, (ziL38 Ln), ziF63, ziI33, (ziA37 xs)) r) : zEv 93 44 5 30 [some (.ref 44), none] [] (50, ziC49, (ziL37 Ln), ziF63, ziI33, (ziA36 xs)) r :=
  zEv.lift 3 (fun _ => by with_unfolding_all rfl) hk
set_option maxRecDepth 100000 in
theorem zin_12_X8_init_p11 (Ln : Nat) (xs : Nat → Int32) {r : zRs} (hk : zEv 93 52 6 36 [some (.ref 44), none] [] (51, ziC50, (ziL38 Ln), ziF64, ziI33, (ziA37 xs)) r) : zEv 93 49 6 36 [some (.ref 44), none] [.ref 50, .ref 44] (51, ziC50, (ziL38 Ln), ziF63, ziI33, (ziA37 xs)) r :=
  zEv.lift 1 (fun _ => by with_unfolding_all rfl) hk
set_option maxRecDepth 100000 in
theorem zin_12_X8_init_p12 (Ln : Nat) (xs : Nat → Int32) {r : zRs} (hk : zEv 93 57 7 42 [some (.ref 44), none] [.ref 51, .ref 44] (52, ziC51, (ziL39 Ln), ziF64, ziI33, (ziA38 xs)) r) : zEv 93 52 6 36 [some (.ref 44), none] [] (51, ziC50, (ziL38 Ln), ziF64, ziI33, (ziA37 xs)) r :=
  zEv.lift 3 (fun _ => by with_unfolding_all rfl) hk
set_option maxRecDepth 100000 in
theorem zin_12_X8_init_p13 (Ln : Nat) (xs : Nat → Int32) {r : zRs} (hk : zEv 93 60 7 42 [some (.ref 44), none] [] (52, ziC51, (ziL39 Ln), ziF65, ziI33, (ziA38 xs)) r) : zEv 93 57 7 42 [some (.ref 44), none] [.ref 51, .ref 44] (52, ziC51, (ziL39 Ln), ziF64, ziI33, (ziA38 xs)) r :=
  zEv.lift 1 (fun _ => by with_unfolding_all rfl) hk
set_option maxRecDepth 100000 in
theorem zin_12_X8_init_p14 (Ln : Nat) (xs : Nat → Int32) {r : zRs} (hk : zEv 93 65 8 48 [some (.ref 44), none] [.ref 52, .ref 44] (53, ziC52, (ziL40 Ln), ziF65, ziI33, (ziA39 xs)) r) : zEv 93 60 7 42 [some (.ref 44), none] [] (52, ziC51, (ziL39 Ln), ziF65, ziI33, (ziA38 xs)) r :=
  zEv.lift 3 (fun _ => by with_unfolding_all rfl) hk
set_option maxRecDepth 100000 in
theorem zin_12_X8_init_p15 (Ln : Nat) (xs : Nat → Int32) {r : zRs} (hk : zEv 93 68 8 48 [some (.ref 44), none] [] (53, ziC52, (ziL40 Ln), ziF66, ziI33, (ziA39 xs)) r) : zEv 93 65 8 48 [some (.ref 44), none] [.ref 52, .ref 44] (53, ziC52, (ziL40 Ln), ziF65, ziI33, (ziA39 xs)) r :=
  zEv.lift 1 (fun _ => by with_unfolding_all rfl) hk
set_option maxRecDepth 100000 in
theorem zin_12_X8_init_p16 (Ln : Nat) (xs : Nat → Int32) {r : zRs} (hk : zEv 93 73 9 54 [some (.ref 44), none] [.ref 53, .ref 44] (54, ziC53, (ziL41 Ln), ziF66, ziI33, (ziA40 xs)) r) : zEv 93 68 8 48 [some (.ref 44), none] [] (53, ziC52, (ziL40 Ln), ziF66, ziI33, (ziA39 xs)) r :=
  zEv.lift 3 (fun _ => by with_unfolding_all rfl) hk
set_option maxRecDepth 100000 in
theorem zin_12_X8_init_p17 (Ln : Nat) (xs : Nat → Int32) {r : zRs} (hk : zEv 93 76 9 54 [some (.ref 44), none] [] (54, ziC53, (ziL41 Ln), ziF67, ziI33, (ziA40 xs)) r) : zEv 93 73 9 54 [some (.ref 44), none] [.ref 53, .ref 44] (54, ziC53, (ziL41 Ln), ziF66, ziI33, (ziA40 xs)) r :=
  zEv.lift 1 (fun _ => by with_unfolding_all rfl) hk
set_option maxRecDepth 100000 in
theorem zin_12_X8_init_p18 (Ln : Nat) (xs : Nat → Int32) {r : zRs} (hk : zEv 93 81 10 60 [some (.ref 44), none] [.ref 54, .ref 44] (55, ziC54, (ziL42 Ln), ziF67, ziI33, (ziA41 xs)) r) : zEv 93 76 9 54 [some (.ref 44), none] [] (54, ziC53, (ziL41 Ln), ziF67, ziI33, (ziA40 xs)) r :=
  zEv.lift 3 (fun _ => by with_unfolding_all rfl) hk
set_option maxRecDepth 100000 in
theorem zin_12_X8_init_p19 (Ln : Nat) (xs : Nat → Int32) {r : zRs} (hk : zEv 93 84 10 60 [some (.ref 44), none] [] (55, ziC54, (ziL42 Ln), ziF68, ziI33, (ziA41 xs)) r) : zEv 93 81 10 60 [some (.ref 44), none] [.ref 54, .ref 44] (55, ziC54, (ziL42 Ln), ziF67, ziI33, (ziA41 xs)) r :=
  zEv.lift 1 (fun _ => by with_unfolding_all rfl) hk
set_option maxRecDepth 100000 in
theorem zin_12_X8_init_p20 (Ln : Nat) (xs : Nat → Int32) {r : zRs} (hk : zEv 93 89 11 66 [some (.ref 44), none] [.ref 55, .ref 44] (56, ziC55, (ziL43 Ln), ziF68, ziI33, (ziA42 xs)) r) : zEv 93 84 10 60 [some (.ref 44), none] [] (55, ziC54, (ziL42 Ln), ziF68, ziI33, (ziA41 xs)) r :=
  zEv.lift 3 (fun _ => by with_unfolding_all rfl) hk
set_option maxRecDepth 100000 in
theorem zin_12_X8_init_p21 (Ln : Nat) (xs : Nat → Int32) {r : zRs} (hk : zEv 93 92 11 66 [some (.ref 44), none] [] (56, ziC55, (ziL43 Ln), ziF69, ziI33, (ziA42 xs)) r) : zEv 93 89 11 66 [some (.ref 44), none] [.ref 55, .ref 44] (56, ziC55, (ziL43 Ln), ziF68, ziI33, (ziA42 xs)) r :=
  zEv.lift 1 (fun _ => by with_unfolding_all rfl) hk
set_option maxRecDepth 100000 in
theorem zin_12_X8_init_p22 (Ln : Nat) (xs : Nat → Int32) {r : zRs} (hk : zEv 93 97 12 72 [some (.ref 44), none] [.ref 56, .ref 44] (57, ziC56, (ziL44 Ln), ziF69, ziI33, (ziA43 xs)) r) : zEv 93 92 11 66 [some (.ref 44), none] [] (56, ziC55, (ziL43 Ln), ziF69, ziI33, (ziA42 xs)) r :=
  zEv.lift 3 (fun _ => by with_unfolding_all rfl) hk
set_option maxRecDepth 100000 in
theorem zin_12_X8_init_p23 (Ln : Nat) (xs : Nat → Int32) {r : zRs} (hk : zEv 93 100 12 72 [some (.ref 44), none] [] (57, ziC56, (ziL44 Ln), ziF70, ziI33, (ziA43 xs)) r) : zEv 93 97 12 72 [some (.ref 44), none] [.ref 56, .ref 44] (57, ziC56, (ziL44 Ln), ziF69, ziI33, (ziA43 xs)) r :=
  zEv.lift 1 (fun _ => by with_unfolding_all rfl) hk
set_option maxRecDepth 100000 in
theorem zin_12_X8_init_p24 (Ln : Nat) (xs : Nat → Int32) {r : zRs} (hk : zEv 93 105 13 78 [some (.ref 44), none] [.ref 57, .ref 44] (58, ziC57, (ziL45 Ln), ziF70, ziI33, (ziA44 xs)) r) : zEv 93 100 12 72 [some (.ref 44), none] [] (57, ziC56, (ziL44 Ln), ziF70, ziI33, (ziA43 xs)) r :=
  zEv.lift 3 (fun _ => by with_unfolding_all rfl) hk
set_option maxRecDepth 100000 in
theorem zin_12_X8_init_p25 (Ln : Nat) (xs : Nat → Int32) {r : zRs} (hk : zEv 93 108 13 78 [some (.ref 44), none] [] (58, ziC57, (ziL45 Ln), ziF71, ziI33, (ziA44 xs)) r) : zEv 93 105 13 78 [some (.ref 44), none] [.ref 57, .ref 44] (58, ziC57, (ziL45 Ln), ziF70, ziI33, (ziA44 xs)) r :=
  zEv.lift 1 (fun _ => by with_unfolding_all rfl) hk
set_option maxRecDepth 100000 in
theorem zin_12_X8_init_p26 (Ln : Nat) (xs : Nat → Int32) {r : zRs} (hk : zEv 93 113 14 84 [some (.ref 44), none] [.ref 58, .ref 44] (59, ziC58, (ziL46 Ln), ziF71, ziI33, (ziA45 xs)) r) : zEv 93 108 13 78 [some (.ref 44), none] [] (58, ziC57, (ziL45 Ln), ziF71, ziI33, (ziA44 xs)) r :=
  zEv.lift 3 (fun _ => by with_unfolding_all rfl) hk
set_option maxRecDepth 100000 in
theorem zin_12_X8_init_p27 (Ln : Nat) (xs : Nat → Int32) {r : zRs} (hk : zEv 93 116 14 84 [some (.ref 44), none] [] (59, ziC58, (ziL46 Ln), ziF72, ziI33, (ziA45 xs)) r) : zEv 93 113 14 84 [some (.ref 44), none] [.ref 58, .ref 44] (59, ziC58, (ziL46 Ln), ziF71, ziI33, (ziA45 xs)) r :=
  zEv.lift 1 (fun _ => by with_unfolding_all rfl) hk
set_option maxRecDepth 100000 in
theorem zin_12_X8_init_p28 (Ln : Nat) (xs : Nat → Int32) {r : zRs} (hk : zEv 93 121 15 148 [some (.ref 44), none] [.ref 59, .ref 44] (60, ziC59, (ziL47 Ln), ziF72, ziI33, (ziA46 xs)) r) : zEv 93 116 14 84 [some (.ref 44), none] [] (59, ziC58, (ziL46 Ln), ziF72, ziI33, (ziA45 xs)) r :=
  zEv.lift 3 (fun _ => by with_unfolding_all rfl) hk
set_option maxRecDepth 100000 in
theorem zin_12_X8_init_p29 (Ln : Nat) (xs : Nat → Int32) {r : zRs} (hk : zEv 93 124 15 148 [some (.ref 44), none] [] (60, ziC59, (ziL47 Ln), ziF73, ziI33, (ziA46 xs)) r) : zEv 93 121 15 148 [some (.ref 44), none] [.ref 59, .ref 44] (60, ziC59, (ziL47 Ln), ziF72, ziI33, (ziA46 xs)) r :=
  zEv.lift 1 (fun _ => by with_unfolding_all rfl) hk
set_option maxRecDepth 100000 in
theorem zin_12_X8_init_p30 (Ln : Nat) (xs : Nat → Int32) {r : zRs} (hk : zEv 93 129 16 212 [some (.ref 44), none] [.ref 60, .ref 44] (61, ziC60, (ziL48 Ln), ziF73, ziI33, (ziA47 xs)) r) : zEv 93 124 15 148 [some (.ref 44), none] [] (60, ziC59, (ziL47 Ln), ziF73, ziI33, (ziA46 xs)) r :=
  zEv.lift 3 (fun _ => by with_unfolding_all rfl) hk
set_option maxRecDepth 100000 in
theorem zin_12_X8_init_p31 (Ln : Nat) (xs : Nat → Int32) {r : zRs} (hk : zEv 93 132 16 212 [some (.ref 44), none] [] (61, ziC60, (ziL48 Ln), ziF74, ziI33, (ziA47 xs)) r) : zEv 93 129 16 212 [some (.ref 44), none] [.ref 60, .ref 44] (61, ziC60, (ziL48 Ln), ziF73, ziI33, (ziA47 xs)) r :=
  zEv.lift 1 (fun _ => by with_unfolding_all rfl) hk
set_option maxRecDepth 100000 in
theorem zin_12_X8_init_p32 (Ln : Nat) (xs : Nat → Int32) {r : zRs} (hk : zEv 93 137 17 276 [some (.ref 44), none] [.ref 61, .ref 44] (62, ziC61, (ziL49 Ln), ziF74, ziI33, (ziA48 xs)) r) : zEv 93 132 16 212 [some (.ref 44), none] [] (61, ziC60, (ziL48 Ln), ziF74, ziI33, (ziA47 xs)) r :=
  zEv.lift 3 (fun _ => by with_unfolding_all rfl) hk
set_option maxRecDepth 100000 in
theorem zin_12_X8_init_p33 (Ln : Nat) (xs : Nat → Int32) {r : zRs} (hk : zEv 93 140 17 276 [some (.ref 44), none] [] (62, ziC61, (ziL49 Ln), ziF75, ziI33, (ziA48 xs)) r) : zEv 93 137 17 276 [some (.ref 44), none] [.ref 61, .ref 44] (62, ziC61, (ziL49 Ln), ziF74, ziI33, (ziA48 xs)) r :=
  zEv.lift 1 (fun _ => by with_unfolding_all rfl) hk
set_option maxRecDepth 100000 in
theorem zin_12_X8_init_p34 (Ln : Nat) (xs : Nat → Int32) {r : zRs} (hk : zEv 93 145 18 282 [some (.ref 44), none] [.ref 62, .ref 44] (63, ziC62, (ziL50 Ln), ziF75, ziI33, (ziA49 xs)) r) : zEv 93 140 17 276 [some (.ref 44), none] [] (62, ziC61, (ziL49 Ln), ziF75, ziI33, (ziA48 xs)) r :=
  zEv.lift 3 (fun _ => by with_unfolding_all rfl) hk
set_option maxRecDepth 100000 in
theorem zin_12_X8_init_p35 (Ln : Nat) (xs : Nat → Int32) {r : zRs} (hk : zEv 93 148 18 282 [some (.ref 44), none] [] (63, ziC62, (ziL50 Ln), ziF76, ziI33, (ziA49 xs)) r) : zEv 93 145 18 282 [some (.ref 44), none] [.ref 62, .ref 44] (63, ziC62, (ziL50 Ln), ziF75, ziI33, (ziA49 xs)) r :=
  zEv.lift 1 (fun _ => by with_unfolding_all rfl) hk
set_option maxRecDepth 100000 in
theorem zin_12_X8_init_p36 (Ln : Nat) (xs : Nat → Int32) {r : zRs} (hk : zEv 93 153 19 288 [some (.ref 44), none] [.ref 63, .ref 44] (64, ziC63, (ziL51 Ln), ziF76, ziI33, (ziA50 xs)) r) : zEv 93 148 18 282 [some (.ref 44), none] [] (63, ziC62, (ziL50 Ln), ziF76, ziI33, (ziA49 xs)) r :=
  zEv.lift 3 (fun _ => by with_unfolding_all rfl) hk
set_option maxRecDepth 100000 in
theorem zin_12_X8_init_p37 (Ln : Nat) (xs : Nat → Int32) {r : zRs} (hk : zEv 93 156 19 288 [some (.ref 44), none] [] (64, ziC63, (ziL51 Ln), ziF77, ziI33, (ziA50 xs)) r) : zEv 93 153 19 288 [some (.ref 44), none] [.ref 63, .ref 44] (64, ziC63, (ziL51 Ln), ziF76, ziI33, (ziA50 xs)) r :=
  zEv.lift 1 (fun _ => by with_unfolding_all rfl) hk
set_option maxRecDepth 100000 in
theorem zin_12_X8_init_p38 (Ln : Nat) (xs : Nat → Int32) {r : zRs} (hk : zEv 93 161 20 294 [some (.ref 44), none] [.ref 64, .ref 44] (65, ziC64, (ziL52 Ln), ziF77, ziI33, (ziA51 xs)) r) : zEv 93 156 19 288 [some (.ref 44), none] [] (64, ziC63, (ziL51 Ln), ziF77, ziI33, (ziA50 xs)) r :=
  zEv.lift 3 (fun _ => by with_unfolding_all rfl) hk
set_option maxRecDepth 100000 in
theorem zin_12_X8_init_p39 (Ln : Nat) (xs : Nat → Int32) {r : zRs} (hk : zEv 93 164 20 294 [some (.ref 44), none] [] (65, ziC64, (ziL52 Ln), ziF78, ziI33, (ziA51 xs)) r) : zEv 93 161 20 294 [some (.ref 44), none] [.ref 64, .ref 44] (65, ziC64, (ziL52 Ln), ziF77, ziI33, (ziA51 xs)) r :=
  zEv.lift 1 (fun _ => by with_unfolding_all rfl) hk
set_option maxRecDepth 100000 in
theorem zin_12_X8_init_p40 (Ln : Nat) (xs : Nat → Int32) {r : zRs} (hk : zEv 93 168 21 298 [some (.ref 44), none] [.ref 65, .ref 44] (66, ziC65, (ziL53 Ln), ziF78, ziI33, (ziA52 xs)) r) : zEv 93 164 20 294 [some (.ref 44), none] [] (65, ziC64, (ziL52 Ln), ziF78, ziI33, (ziA51 xs)) r :=
  zEv.lift 3 (fun _ => by with_unfolding_all rfl) hk
set_option maxRecDepth 100000 in
theorem zin_12_X8_init_p41 (Ln : Nat) (xs : Nat → Int32) {r : zRs} (hk : zEv 93 171 21 298 [some (.ref 44), none] [] (66, ziC65, (ziL53 Ln), ziF79, ziI33, (ziA52 xs)) r) : zEv 93 168 21 298 [some (.ref 44), none] [.ref 65, .ref 44] (66, ziC65, (ziL53 Ln), ziF78, ziI33, (ziA52 xs)) r :=
  zEv.lift 1 (fun _ => by with_unfolding_all rfl) hk
set_option maxRecDepth 100000 in
theorem zin_12_X8_init_p42 (Ln : Nat) (xs : Nat → Int32) {r : zRs} (hk : zEv 93 175 22 302 [some (.ref 44), none] [.ref 66, .ref 44] (67, ziC66, (ziL54 Ln), ziF79, ziI33, (ziA53 xs)) r) : zEv 93 171 21 298 [some (.ref 44), none] [] (66, ziC65, (ziL53 Ln), ziF79, ziI33, (ziA52 xs)) r :=
  zEv.lift 3 (fun _ => by with_unfolding_all rfl) hk
set_option maxRecDepth 100000 in
theorem zin_12_X8_init_p43 (Ln : Nat) (xs : Nat → Int32) {r : zRs} (hk : zEv 93 178 22 302 [some (.ref 44), none] [] (67, ziC66, (ziL54 Ln), ziF80, ziI33, (ziA53 xs)) r) : zEv 93 175 22 302 [some (.ref 44), none] [.ref 66, .ref 44] (67, ziC66, (ziL54 Ln), ziF79, ziI33, (ziA53 xs)) r :=
  zEv.lift 1 (fun _ => by with_unfolding_all rfl) hk
set_option maxRecDepth 100000 in
theorem zin_12_X8_init_p44 (Ln : Nat) (xs : Nat → Int32) {r : zRs} (hk : zEv 93 184 23 542 [some (.ref 44), none] [.ref 67, .ref 44] (68, ziC67, (ziL55 Ln), ziF80, ziI33, (ziA54 xs)) r) : zEv 93 178 22 302 [some (.ref 44), none] [] (67, ziC66, (ziL54 Ln), ziF80, ziI33, (ziA53 xs)) r :=
  zEv.lift 3 (fun _ => by with_unfolding_all rfl) hk
set_option maxRecDepth 100000 in
theorem zin_12_X8_init_p45 (Ln : Nat) (xs : Nat → Int32) {r : zRs} (hk : zEv 93 187 23 542 [some (.ref 44), none] [] (68, ziC67, (ziL55 Ln), ziF81, ziI33, (ziA54 xs)) r) : zEv 93 184 23 542 [some (.ref 44), none] [.ref 67, .ref 44] (68, ziC67, (ziL55 Ln), ziF80, ziI33, (ziA54 xs)) r :=
  zEv.lift 1 (fun _ => by with_unfolding_all rfl) hk
set_option maxRecDepth 100000 in
theorem zin_12_X8_init_p46 (Ln : Nat) (xs : Nat → Int32) {r : zRs} (hk : zEv 93 192 24 602 [some (.ref 44), none] [.ref 68, .ref 44] (69, ziC68, (ziL56 Ln), ziF81, ziI33, (ziA55 xs)) r) : zEv 93 187 23 542 [some (.ref 44), none] [] (68, ziC67, (ziL55 Ln), ziF81, ziI33, (ziA54 xs)) r :=
  zEv.lift 3 (fun _ => by with_unfolding_all rfl) hk
set_option maxRecDepth 100000 in
theorem zin_12_X8_init_p47 (Ln : Nat) (xs : Nat → Int32) {r : zRs} (hk : zEv 93 195 24 602 [some (.ref 44), none] [] (69, ziC68, (ziL56 Ln), ziF82, ziI33, (ziA55 xs)) r) : zEv 93 192 24 602 [some (.ref 44), none] [.ref 68, .ref 44] (69, ziC68, (ziL56 Ln), ziF81, ziI33, (ziA55 xs)) r :=
  zEv.lift 1 (fun _ => by with_unfolding_all rfl) hk
set_option maxRecDepth 100000 in
theorem zin_12_X8_init_p48 (Ln : Nat) (xs : Nat → Int32) {r : zRs} (hk : zEv 93 209 24 602 [some (.ref 44), some (.int 0)] [] (69, ziC68, (ziL56 Ln), ziF82, ziI33, (ziA56 xs)) r) : zEv 93 195 24 602 [some (.ref 44), none] [] (69, ziC68, (ziL56 Ln), ziF82, ziI33, (ziA55 xs)) r :=
  zEv.lift 10 (fun _ => by with_unfolding_all rfl) hk
set_option maxRecDepth 100000 in
theorem zin_12_X8_init_p49 (Ln : Nat) (xs : Nat → Int32) {r : zRs} (hk : zEv 93 209 24 602 [some (.ref 44), some (.int 1)] [] (69, ziC68, (ziL56 Ln), ziF82, ziI33, (ziA57 xs)) r) : zEv 93 209 24 602 [some (.ref 44), some (.int 0)] [] (69, ziC68, (ziL56 Ln), ziF82, ziI33, (ziA56 xs)) r :=
  zEv.lift 10 (fun _ => by with_unfolding_all rfl) hk
set_option maxRecDepth 100000 in
theorem zin_12_X8_init_p50 (Ln : Nat) (xs : Nat → Int32) {r : zRs} (hk : zEv 93 209 24 602 [some (.ref 44), some (.int 2)] [] (69, ziC68, (ziL56 Ln), ziF82, ziI33, (ziA58 xs)) r) : zEv 93 209 24 602 [some (.ref 44), some (.int 1)] [] (69, ziC68, (ziL56 Ln), ziF82, ziI33, (ziA57 xs)) r :=
  zEv.lift 10 (fun _ => by with_unfolding_all rfl) hk
set_option maxRecDepth 100000 in
theorem zin_12_X8_init_p51 (Ln : Nat) (xs : Nat → Int32) {r : zRs} (hk : zEv 93 209 24 602 [some (.ref 44), some (.int 3)] [] (69, ziC68, (ziL56 Ln), ziF82, ziI33, (ziA59 xs)) r) : zEv 93 209 24 602 [some (.ref 44), some (.int 2)] [] (69, ziC68, (ziL56 Ln), ziF82, ziI33, (ziA58 xs)) r :=
  zEv.lift 10 (fun _ => by with_unfolding_all rfl) hk
set_option maxRecDepth 100000 in
theorem zin_12_X8_init_p52 (Ln : Nat) (xs : Nat → Int32) {r : zRs} (hk : zEv 93 215 24 602 [some (.ref 44), some (.int 4)] [] (69, ziC68, (ziL56 Ln), ziF82, ziI33, (ziA59 xs)) r) : zEv 93 209 24 602 [some (.ref 44), some (.int 3)] [] (69, ziC68, (ziL56 Ln), ziF82, ziI33, (ziA59 xs)) r :=
  zEv.lift 5 (fun _ => by with_unfolding_all rfl) hk
set_option maxRecDepth 100000 in
theorem zin_12_X8_init (Ln : Nat) (xs : Nat → Int32) : zEv 93 0 0 0 [some (.ref 44), none] [] (45, ziC44, (ziL32 Ln), ziF58, ziI33, (ziA31 xs)) (none, (69, ziC68, (ziL56 Ln), ziF82, ziI33, (ziA59 xs))) := (zin_12_X8_init_p0 Ln xs (zin_12_X8_init_p1 Ln xs (zin_12_X8_init_p2 Ln xs (zin_12_X8_init_p3 Ln xs (zin_12_X8_init_p4 Ln xs (zin_12_X8_init_p5 Ln xs (zin_12_X8_init_p6 Ln xs (zin_12_X8_init_p7 Ln xs (zin_12_X8_init_p8 Ln xs (zin_12_X8_init_p9 Ln xs (zin_12_X8_init_p10 Ln xs (zin_12_X8_init_p11 Ln xs (zin_12_X8_init_p12 Ln xs (zin_12_X8_init_p13 Ln xs (zin_12_X8_init_p14 Ln xs (zin_12_X8_init_p15 Ln xs (zin_12_X8_init_p16 Ln xs (zin_12_X8_init_p17 Ln xs (zin_12_X8_init_p18 Ln xs (zin_12_X8_init_p19 Ln xs (zin_12_X8_init_p20 Ln xs (zin_12_X8_init_p21 Ln xs (zin_12_X8_init_p22 Ln xs (zin_12_X8_init_p23 Ln xs (zin_12_X8_init_p24 Ln xs (zin_12_X8_init_p25 Ln xs (zin_12_X8_init_p26 Ln xs (zin_12_X8_init_p27 Ln xs (zin_12_X8_init_p28 Ln xs (zin_12_X8_init_p29 Ln xs (zin_12_X8_init_p30 Ln xs (zin_12_X8_init_p31 Ln xs (zin_12_X8_init_p32 Ln xs (zin_12_X8_init_p33 Ln xs (zin_12_X8_init_p34 Ln xs (zin_12_X8_init_p35 Ln xs (zin_12_X8_init_p36 Ln xs (zin_12_X8_init_p37 Ln xs (zin_12_X8_init_p38 Ln xs (zin_12_X8_init_p39 Ln xs (zin_12_X8_init_p40 Ln xs (zin_12_X8_init_p41 Ln xs (zin_12_X8_init_p42 Ln xs (zin_12_X8_init_p43 Ln xs (zin_12_X8_init_p44 Ln xs (zin_12_X8_init_p45 Ln xs (zin_12_X8_init_p46 Ln xs (zin_12_X8_init_p47 Ln xs (zin_12_X8_init_p48 Ln xs (zin_12_X8_init_p49 Ln xs (zin_12_X8_init_p50 Ln xs (zin_12_X8_init_p51 Ln xs (zin_12_X8_init_p52 Ln xs (zEv.ret rfl))))))))))))))))))))))))))))))))))))))))))))))))))))))
set_option maxRecDepth 100000 in
theorem zin_13_L_law_p0 (Ln : Nat) (xs : Nat → Int32) {r : zRs} (hk : zEv 164 3 1 12 [some (.ref 0), none, none, none] [.ref 1] (2, ziC1, (ziL0 Ln), ziF1, ziI1, (ziA0 xs)) r) : zEv 164 0 0 0 [some (.ref 0), none, none, none] [] (1, ziC0, (ziL0 Ln), ziF0, ziI0, (ziA0 xs)) r :=
  zEv.lift 1 (fun _ => by with_unfolding_all rfl) hk
set_option maxRecDepth 100000 in
theorem zin_13_L_law_p1 (Ln : Nat) (xs : Nat → Int32) {r : zRs} (hk : zEv 164 4 1 12 [some (.ref 0), none, none, none] [.ref 1, .ref 1] (2, ziC1, (ziL0 Ln), ziF1, ziI1, (ziA0 xs)) r) : zEv 164 3 1 12 [some (.ref 0), none, none, none] [.ref 1] (2, ziC1, (ziL0 Ln), ziF1, ziI1, (ziA0 xs)) r :=
  zEv.lift 1 (fun _ => by with_unfolding_all rfl) hk
set_option maxRecDepth 100000 in
theorem zin_13_L_law_p2 (Ln : Nat) (xs : Nat → Int32) {r : zRs} (hk : zEv 164 7 43 962 [some (.ref 0), none, none, none] [.ref 1] (44, ziC43, (ziL32 Ln), ziF57, ziI32, (ziA31 xs)) r) : zEv 164 4 1 12 [some (.ref 0), none, none, none] [.ref 1, .ref 1] (2, ziC1, (ziL0 Ln), ziF1, ziI1, (ziA0 xs)) r :=
  zEv.call (as := [.ref 1]) (q := (none, (44, ziC43, (ziL32 Ln), ziF57, ziI32, (ziA31 xs)))) rfl (fun _ => rfl) (Nat.le_of_ble_eq_true rfl) (zin_11_X7_init Ln xs) hk
set_option maxRecDepth 100000 in
theorem zin_13_L_law_p3 (Ln : Nat) (xs : Nat → Int32) {r : zRs} (hk : zEv 164 11 44 1002 [some (.ref 0), some (.ref 1), none, none] [.ref 44] (45, ziC44, (ziL32 Ln), ziF58, ziI33, (ziA31 xs)) r) : zEv 164 7 43 962 [some (.ref 0), none, none, none] [.ref 1] (44, ziC43, (ziL32 Ln), ziF57, ziI32, (ziA31 xs)) r :=
  zEv.lift 2 (fun _ => by with_unfolding_all rfl) hk
set_option maxRecDepth 100000 in
theorem zin_13_L_law_p4 (Ln : Nat) (xs : Nat → Int32) {r : zRs} (hk : zEv 164 12 44 1002 [some (.ref 0), some (.ref 1), none, none] [.ref 44, .ref 44] (45, ziC44, (ziL32 Ln), ziF58, ziI33, (ziA31 xs)) r) : zEv 164 11 44 1002 [some (.ref 0), some (.ref 1), none, none] [.ref 44] (45, ziC44, (ziL32 Ln), ziF58, ziI33, (ziA31 xs)) r :=
  zEv.lift 1 (fun _ => by with_unfolding_all rfl) hk
set_option maxRecDepth 100000 in
theorem zin_13_L_law_p5 (Ln : Nat) (xs : Nat → Int32) {r : zRs} (hk : zEv 164 15 68 1604 [some (.ref 0), some (.ref 1), none, none] [.ref 44] (69, ziC68, (ziL56 Ln), ziF82, ziI33, (ziA59 xs)) r) : zEv 164 12 44 1002 [some (.ref 0), some (.ref 1), none, none] [.ref 44, .ref 44] (45, ziC44, (ziL32 Ln), ziF58, ziI33, (ziA31 xs)) r :=
  zEv.call (as := [.ref 44]) (q := (none, (69, ziC68, (ziL56 Ln), ziF82, ziI33, (ziA59 xs)))) rfl (fun _ => rfl) (Nat.le_of_ble_eq_true rfl) (zin_12_X8_init Ln xs) hk
set_option maxRecDepth 100000 in
theorem zin_13_L_law_p6 (Ln : Nat) (xs : Nat → Int32) {r : zRs} (hk : zEv 164 18 68 1604 [some (.ref 0), some (.ref 1), some (.ref 44), some (.int 0)] [] (69, ziC68, (ziL56 Ln), ziF82, ziI33, (ziA59 xs)) r) : zEv 164 15 68 1604 [some (.ref 0), some (.ref 1), none, none] [.ref 44] (69, ziC68, (ziL56 Ln), ziF82, ziI33, (ziA59 xs)) r :=
  zEv.lift 3 (fun _ => by with_unfolding_all rfl) hk
set_option maxRecDepth 100000 in
theorem zin_13_L_law (Ln : Nat) (xs : Nat → Int32) {r : zRs} (hk : zEv 164 18 68 1604 [some (.ref 0), some (.ref 1), some (.ref 44), some (.int 0)] [] (69, ziC68, (ziL56 Ln), ziF82, ziI33, (ziA59 xs)) r) : zEv 164 0 0 0 [some (.ref 0), none, none, none] [] (1, ziC0, (ziL0 Ln), ziF0, ziI0, (ziA0 xs)) r := (zin_13_L_law_p0 Ln xs (zin_13_L_law_p1 Ln xs (zin_13_L_law_p2 Ln xs (zin_13_L_law_p3 Ln xs (zin_13_L_law_p4 Ln xs (zin_13_L_law_p5 Ln xs (zin_13_L_law_p6 Ln xs hk)))))))
