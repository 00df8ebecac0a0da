/-! the law up to its loop, by program (wip/whole/gen_init.py) -/
def ziC0 : Nat → Nat := fun i => if i = 0 then 103 else 200
def ziL0 (Ln : Nat) : Nat → Nat := fun i => if i = 0 then Ln else 0
def ziF0 : Nat → Nat → Nat := fun _ _ => 0
def ziI0 : Nat → Nat → Int32 := fun _ _ => 0
def ziA0 (xs : Nat → Int32) : Nat → Nat → Int32 := fun i => if i = 0 then xs else fun _ => 0
def ziC1 : Nat → Nat := va_up ziC0 1 6
def ziF1 : Nat → Nat → Nat := va_up ziF0 1 (fun _ => 0)
def ziI1 : Nat → Nat → Int32 := va_up ziI0 1 (fun _ => 0)
def ziC2 : Nat → Nat := va_up ziC1 2 102
def ziL1 (Ln : Nat) : Nat → Nat := va_up (ziL0 Ln) 2 4
def ziF2 : Nat → Nat → Nat := va_up ziF1 2 (fun _ => 0)
def ziC3 : Nat → Nat := va_up ziC2 3 4
def ziF3 : Nat → Nat → Nat := va_up ziF2 3 (fun _ => 0)
def ziI2 : Nat → Nat → Int32 := va_up ziI1 3 (fun _ => 0)
def ziC4 : Nat → Nat := va_up ziC3 4 100
def ziL2 (Ln : Nat) : Nat → Nat := va_up (ziL1 Ln) 4 60
def ziA1 (xs : Nat → Int32) : Nat → Nat → Int32 := va_up (ziA0 xs) 4 (fun _ => 0)
def ziF4 : Nat → Nat → Nat := va_up ziF3 3 (va_up (ziF3 3) 0 4)
def ziI3 : Nat → Nat → Int32 := va_up ziI2 3 (va_up (ziI2 3) 1 0)
def ziI4 : Nat → Nat → Int32 := va_up ziI3 3 (va_up (ziI3 3) 2 0)
def ziI5 : Nat → Nat → Int32 := va_up ziI4 3 (va_up (ziI4 3) 3 0)
def ziF5 : Nat → Nat → Nat := va_up ziF4 2 (va_up (ziF4 2) 0 3)
def ziC5 : Nat → Nat := va_up ziC4 5 4
def ziF6 : Nat → Nat → Nat := va_up ziF5 5 (fun _ => 0)
def ziI6 : Nat → Nat → Int32 := va_up ziI5 5 (fun _ => 0)
def ziC6 : Nat → Nat := va_up ziC5 6 100
def ziL3 (Ln : Nat) : Nat → Nat := va_up (ziL2 Ln) 6 60
def ziA2 (xs : Nat → Int32) : Nat → Nat → Int32 := va_up (ziA1 xs) 6 (fun _ => 0)
def ziF7 : Nat → Nat → Nat := va_up ziF6 5 (va_up (ziF6 5) 0 6)
def ziI7 : Nat → Nat → Int32 := va_up ziI6 5 (va_up (ziI6 5) 1 0)
def ziI8 : Nat → Nat → Int32 := va_up ziI7 5 (va_up (ziI7 5) 2 0)
def ziI9 : Nat → Nat → Int32 := va_up ziI8 5 (va_up (ziI8 5) 3 0)
def ziF8 : Nat → Nat → Nat := va_up ziF7 2 (va_up (ziF7 2) 1 5)
def ziC7 : Nat → Nat := va_up ziC6 7 4
def ziF9 : Nat → Nat → Nat := va_up ziF8 7 (fun _ => 0)
def ziI10 : Nat → Nat → Int32 := va_up ziI9 7 (fun _ => 0)
def ziC8 : Nat → Nat := va_up ziC7 8 100
def ziL4 (Ln : Nat) : Nat → Nat := va_up (ziL3 Ln) 8 60
def ziA3 (xs : Nat → Int32) : Nat → Nat → Int32 := va_up (ziA2 xs) 8 (fun _ => 0)
def ziF10 : Nat → Nat → Nat := va_up ziF9 7 (va_up (ziF9 7) 0 8)
def ziI11 : Nat → Nat → Int32 := va_up ziI10 7 (va_up (ziI10 7) 1 0)
def ziI12 : Nat → Nat → Int32 := va_up ziI11 7 (va_up (ziI11 7) 2 0)
def ziI13 : Nat → Nat → Int32 := va_up ziI12 7 (va_up (ziI12 7) 3 0)
def ziF11 : Nat → Nat → Nat := va_up ziF10 2 (va_up (ziF10 2) 2 7)
def ziC9 : Nat → Nat := va_up ziC8 9 4
def ziF12 : Nat → Nat → Nat := va_up ziF11 9 (fun _ => 0)
def ziI14 : Nat → Nat → Int32 := va_up ziI13 9 (fun _ => 0)
def ziC10 : Nat → Nat := va_up ziC9 10 100
def ziL5 (Ln : Nat) : Nat → Nat := va_up (ziL4 Ln) 10 60
def ziA4 (xs : Nat → Int32) : Nat → Nat → Int32 := va_up (ziA3 xs) 10 (fun _ => 0)
def ziF13 : Nat → Nat → Nat := va_up ziF12 9 (va_up (ziF12 9) 0 10)
def ziI15 : Nat → Nat → Int32 := va_up ziI14 9 (va_up (ziI14 9) 1 0)
def ziI16 : Nat → Nat → Int32 := va_up ziI15 9 (va_up (ziI15 9) 2 0)
def ziI17 : Nat → Nat → Int32 := va_up ziI16 9 (va_up (ziI16 9) 3 0)
def ziF14 : Nat → Nat → Nat := va_up ziF13 2 (va_up (ziF13 2) 3 9)
def ziC11 : Nat → Nat := va_up ziC10 11 0
def ziF15 : Nat → Nat → Nat := va_up ziF14 11 (fun _ => 0)
def ziI18 : Nat → Nat → Int32 := va_up ziI17 11 (fun _ => 0)
def ziI19 : Nat → Nat → Int32 := va_up ziI18 11 (va_up (ziI18 11) 0 0)
def ziI20 : Nat → Nat → Int32 := va_up ziI19 11 (va_up (ziI19 11) 1 0)
def ziI21 : Nat → Nat → Int32 := va_up ziI20 11 (va_up (ziI20 11) 2 0)
def ziI22 : Nat → Nat → Int32 := va_up ziI21 11 (va_up (ziI21 11) 3 0)
def ziC12 : Nat → Nat := va_up ziC11 12 100
def ziL6 (Ln : Nat) : Nat → Nat := va_up (ziL5 Ln) 12 6
def ziA5 (xs : Nat → Int32) : Nat → Nat → Int32 := va_up (ziA4 xs) 12 (fun _ => 0)
def ziF16 : Nat → Nat → Nat := va_up ziF15 11 (va_up (ziF15 11) 4 12)
def ziC13 : Nat → Nat := va_up ziC12 13 100
def ziL7 (Ln : Nat) : Nat → Nat := va_up (ziL6 Ln) 13 6
def ziA6 (xs : Nat → Int32) : Nat → Nat → Int32 := va_up (ziA5 xs) 13 (fun _ => 0)
def ziF17 : Nat → Nat → Nat := va_up ziF16 11 (va_up (ziF16 11) 5 13)
def ziC14 : Nat → Nat := va_up ziC13 14 100
def ziL8 (Ln : Nat) : Nat → Nat := va_up (ziL7 Ln) 14 6
def ziA7 (xs : Nat → Int32) : Nat → Nat → Int32 := va_up (ziA6 xs) 14 (fun _ => 0)
def ziF18 : Nat → Nat → Nat := va_up ziF17 11 (va_up (ziF17 11) 6 14)
def ziC15 : Nat → Nat := va_up ziC14 15 100
def ziL9 (Ln : Nat) : Nat → Nat := va_up (ziL8 Ln) 15 6
def ziA8 (xs : Nat → Int32) : Nat → Nat → Int32 := va_up (ziA7 xs) 15 (fun _ => 0)
def ziF19 : Nat → Nat → Nat := va_up ziF18 11 (va_up (ziF18 11) 7 15)
def ziC16 : Nat → Nat := va_up ziC15 16 100
def ziL10 (Ln : Nat) : Nat → Nat := va_up (ziL9 Ln) 16 60
def ziA9 (xs : Nat → Int32) : Nat → Nat → Int32 := va_up (ziA8 xs) 16 (fun _ => 0)
def ziF20 : Nat → Nat → Nat := va_up ziF19 11 (va_up (ziF19 11) 8 16)
def ziC17 : Nat → Nat := va_up ziC16 17 100
def ziL11 (Ln : Nat) : Nat → Nat := va_up (ziL10 Ln) 17 64
def ziA10 (xs : Nat → Int32) : Nat → Nat → Int32 := va_up (ziA9 xs) 17 (fun _ => 0)
def ziF21 : Nat → Nat → Nat := va_up ziF20 11 (va_up (ziF20 11) 9 17)
def ziF22 : Nat → Nat → Nat := va_up ziF21 1 (va_up (ziF21 1) 0 2)
def ziF23 : Nat → Nat → Nat := va_up ziF22 1 (va_up (ziF22 1) 1 11)
def ziC18 : Nat → Nat := va_up ziC17 18 2
def ziF24 : Nat → Nat → Nat := va_up ziF23 18 (fun _ => 0)
def ziI23 : Nat → Nat → Int32 := va_up ziI22 18 (fun _ => 0)
def ziC19 : Nat → Nat := va_up ziC18 19 100
def ziL12 (Ln : Nat) : Nat → Nat := va_up (ziL11 Ln) 19 6
def ziA11 (xs : Nat → Int32) : Nat → Nat → Int32 := va_up (ziA10 xs) 19 (fun _ => 0)
def ziF25 : Nat → Nat → Nat := va_up ziF24 18 (va_up (ziF24 18) 0 19)
def ziC20 : Nat → Nat := va_up ziC19 20 100
def ziL13 (Ln : Nat) : Nat → Nat := va_up (ziL12 Ln) 20 6
def ziA12 (xs : Nat → Int32) : Nat → Nat → Int32 := va_up (ziA11 xs) 20 (fun _ => 0)
def ziF26 : Nat → Nat → Nat := va_up ziF25 18 (va_up (ziF25 18) 1 20)
def ziC21 : Nat → Nat := va_up ziC20 21 100
def ziL14 (Ln : Nat) : Nat → Nat := va_up (ziL13 Ln) 21 6
def ziA13 (xs : Nat → Int32) : Nat → Nat → Int32 := va_up (ziA12 xs) 21 (fun _ => 0)
def ziF27 : Nat → Nat → Nat := va_up ziF26 18 (va_up (ziF26 18) 2 21)
def ziI24 : Nat → Nat → Int32 := va_up ziI23 18 (va_up (ziI23 18) 3 0)
def ziF28 : Nat → Nat → Nat := va_up ziF27 1 (va_up (ziF27 1) 2 18)
def ziC22 : Nat → Nat := va_up ziC21 22 3
def ziF29 : Nat → Nat → Nat := va_up ziF28 22 (fun _ => 0)
def ziI25 : Nat → Nat → Int32 := va_up ziI24 22 (fun _ => 0)
def ziC23 : Nat → Nat := va_up ziC22 23 100
def ziL15 (Ln : Nat) : Nat → Nat := va_up (ziL14 Ln) 23 6
def ziA14 (xs : Nat → Int32) : Nat → Nat → Int32 := va_up (ziA13 xs) 23 (fun _ => 0)
def ziF30 : Nat → Nat → Nat := va_up ziF29 22 (va_up (ziF29 22) 0 23)
def ziC24 : Nat → Nat := va_up ziC23 24 100
def ziL16 (Ln : Nat) : Nat → Nat := va_up (ziL15 Ln) 24 6
def ziA15 (xs : Nat → Int32) : Nat → Nat → Int32 := va_up (ziA14 xs) 24 (fun _ => 0)
def ziF31 : Nat → Nat → Nat := va_up ziF30 22 (va_up (ziF30 22) 1 24)
def ziC25 : Nat → Nat := va_up ziC24 25 101
def ziL17 (Ln : Nat) : Nat → Nat := va_up (ziL16 Ln) 25 6
def ziA16 (xs : Nat → Int32) : Nat → Nat → Int32 := va_up (ziA15 xs) 25 (fun _ => 0)
def ziF32 : Nat → Nat → Nat := va_up ziF31 22 (va_up (ziF31 22) 2 25)
def ziI26 : Nat → Nat → Int32 := va_up ziI25 22 (va_up (ziI25 22) 3 0)
def ziF33 : Nat → Nat → Nat := va_up ziF32 1 (va_up (ziF32 1) 3 22)
def ziC26 : Nat → Nat := va_up ziC25 26 1
def ziF34 : Nat → Nat → Nat := va_up ziF33 26 (fun _ => 0)
def ziI27 : Nat → Nat → Int32 := va_up ziI26 26 (fun _ => 0)
def ziC27 : Nat → Nat := va_up ziC26 27 100
def ziL18 (Ln : Nat) : Nat → Nat := va_up (ziL17 Ln) 27 64
def ziA17 (xs : Nat → Int32) : Nat → Nat → Int32 := va_up (ziA16 xs) 27 (fun _ => 0)
def ziF35 : Nat → Nat → Nat := va_up ziF34 26 (va_up (ziF34 26) 1 27)
def ziF36 : Nat → Nat → Nat := va_up ziF35 26 (va_up (ziF35 26) 0 11)
def ziF37 : Nat → Nat → Nat := va_up ziF36 1 (va_up (ziF36 1) 4 26)
def ziC28 : Nat → Nat := va_up ziC27 28 5
def ziF38 : Nat → Nat → Nat := va_up ziF37 28 (fun _ => 0)
def ziI28 : Nat → Nat → Int32 := va_up ziI27 28 (fun _ => 0)
def ziC29 : Nat → Nat := va_up ziC28 29 100
def ziL19 (Ln : Nat) : Nat → Nat := va_up (ziL18 Ln) 29 6
def ziA18 (xs : Nat → Int32) : Nat → Nat → Int32 := va_up (ziA17 xs) 29 (fun _ => 0)
def ziF39 : Nat → Nat → Nat := va_up ziF38 28 (va_up (ziF38 28) 0 29)
def ziC30 : Nat → Nat := va_up ziC29 30 100
def ziL20 (Ln : Nat) : Nat → Nat := va_up (ziL19 Ln) 30 60
def ziA19 (xs : Nat → Int32) : Nat → Nat → Int32 := va_up (ziA18 xs) 30 (fun _ => 0)
def ziF40 : Nat → Nat → Nat := va_up ziF39 28 (va_up (ziF39 28) 1 30)
def ziC31 : Nat → Nat := va_up ziC30 31 100
def ziL21 (Ln : Nat) : Nat → Nat := va_up (ziL20 Ln) 31 60
def ziA20 (xs : Nat → Int32) : Nat → Nat → Int32 := va_up (ziA19 xs) 31 (fun _ => 0)
def ziF41 : Nat → Nat → Nat := va_up ziF40 28 (va_up (ziF40 28) 2 31)
def ziC32 : Nat → Nat := va_up ziC31 32 100
def ziL22 (Ln : Nat) : Nat → Nat := va_up (ziL21 Ln) 32 60
def ziA21 (xs : Nat → Int32) : Nat → Nat → Int32 := va_up (ziA20 xs) 32 (fun _ => 0)
def ziF42 : Nat → Nat → Nat := va_up ziF41 28 (va_up (ziF41 28) 3 32)
def ziC33 : Nat → Nat := va_up ziC32 33 100
def ziL23 (Ln : Nat) : Nat → Nat := va_up (ziL22 Ln) 33 6
def ziA22 (xs : Nat → Int32) : Nat → Nat → Int32 := va_up (ziA21 xs) 33 (fun _ => 0)
def ziF43 : Nat → Nat → Nat := va_up ziF42 28 (va_up (ziF42 28) 5 33)
def ziC34 : Nat → Nat := va_up ziC33 34 100
def ziL24 (Ln : Nat) : Nat → Nat := va_up (ziL23 Ln) 34 6
def ziA23 (xs : Nat → Int32) : Nat → Nat → Int32 := va_up (ziA22 xs) 34 (fun _ => 0)
def ziF44 : Nat → Nat → Nat := va_up ziF43 28 (va_up (ziF43 28) 6 34)
def ziF45 : Nat → Nat → Nat := va_up ziF44 28 (va_up (ziF44 28) 4 11)
def ziF46 : Nat → Nat → Nat := va_up ziF45 1 (va_up (ziF45 1) 5 28)
def ziC35 : Nat → Nat := va_up ziC34 35 5
def ziF47 : Nat → Nat → Nat := va_up ziF46 35 (fun _ => 0)
def ziI29 : Nat → Nat → Int32 := va_up ziI28 35 (fun _ => 0)
def ziC36 : Nat → Nat := va_up ziC35 36 100
def ziL25 (Ln : Nat) : Nat → Nat := va_up (ziL24 Ln) 36 6
def ziA24 (xs : Nat → Int32) : Nat → Nat → Int32 := va_up (ziA23 xs) 36 (fun _ => 0)
def ziF48 : Nat → Nat → Nat := va_up ziF47 35 (va_up (ziF47 35) 0 36)
def ziC37 : Nat → Nat := va_up ziC36 37 100
def ziL26 (Ln : Nat) : Nat → Nat := va_up (ziL25 Ln) 37 60
def ziA25 (xs : Nat → Int32) : Nat → Nat → Int32 := va_up (ziA24 xs) 37 (fun _ => 0)
def ziF49 : Nat → Nat → Nat := va_up ziF48 35 (va_up (ziF48 35) 1 37)
def ziC38 : Nat → Nat := va_up ziC37 38 100
def ziL27 (Ln : Nat) : Nat → Nat := va_up (ziL26 Ln) 38 60
def ziA26 (xs : Nat → Int32) : Nat → Nat → Int32 := va_up (ziA25 xs) 38 (fun _ => 0)
def ziF50 : Nat → Nat → Nat := va_up ziF49 35 (va_up (ziF49 35) 2 38)
def ziC39 : Nat → Nat := va_up ziC38 39 100
def ziL28 (Ln : Nat) : Nat → Nat := va_up (ziL27 Ln) 39 60
def ziA27 (xs : Nat → Int32) : Nat → Nat → Int32 := va_up (ziA26 xs) 39 (fun _ => 0)
def ziF51 : Nat → Nat → Nat := va_up ziF50 35 (va_up (ziF50 35) 3 39)
def ziC40 : Nat → Nat := va_up ziC39 40 100
def ziL29 (Ln : Nat) : Nat → Nat := va_up (ziL28 Ln) 40 6
def ziA28 (xs : Nat → Int32) : Nat → Nat → Int32 := va_up (ziA27 xs) 40 (fun _ => 0)
def ziF52 : Nat → Nat → Nat := va_up ziF51 35 (va_up (ziF51 35) 5 40)
def ziC41 : Nat → Nat := va_up ziC40 41 100
def ziL30 (Ln : Nat) : Nat → Nat := va_up (ziL29 Ln) 41 6
def ziA29 (xs : Nat → Int32) : Nat → Nat → Int32 := va_up (ziA28 xs) 41 (fun _ => 0)
def ziF53 : Nat → Nat → Nat := va_up ziF52 35 (va_up (ziF52 35) 6 41)
def ziF54 : Nat → Nat → Nat := va_up ziF53 35 (va_up (ziF53 35) 4 11)
def ziF55 : Nat → Nat → Nat := va_up ziF54 1 (va_up (ziF54 1) 6 35)
def ziC42 : Nat → Nat := va_up ziC41 42 100
def ziL31 (Ln : Nat) : Nat → Nat := va_up (ziL30 Ln) 42 6
def ziA30 (xs : Nat → Int32) : Nat → Nat → Int32 := va_up (ziA29 xs) 42 (fun _ => 0)
def ziF56 : Nat → Nat → Nat := va_up ziF55 1 (va_up (ziF55 1) 7 42)
def ziC43 : Nat → Nat := va_up ziC42 43 100
def ziL32 (Ln : Nat) : Nat → Nat := va_up (ziL31 Ln) 43 6
def ziA31 (xs : Nat → Int32) : Nat → Nat → Int32 := va_up (ziA30 xs) 43 (fun _ => 0)
def ziF57 : Nat → Nat → Nat := va_up ziF56 1 (va_up (ziF56 1) 8 43)
def ziI30 : Nat → Nat → Int32 := va_up ziI29 1 (va_up (ziI29 1) 9 0)
def ziI31 : Nat → Nat → Int32 := va_up ziI30 1 (va_up (ziI30 1) 10 0)
def ziI32 : Nat → Nat → Int32 := va_up ziI31 1 (va_up (ziI31 1) 11 0)
def ziC44 : Nat → Nat := va_up ziC43 44 7
def ziF58 : Nat → Nat → Nat := va_up ziF57 44 (fun _ => 0)
def ziI33 : Nat → Nat → Int32 := va_up ziI32 44 (fun _ => 0)
def ziC45 : Nat → Nat := va_up ziC44 45 100
def ziL33 (Ln : Nat) : Nat → Nat := va_up (ziL32 Ln) 45 6
def ziA32 (xs : Nat → Int32) : Nat → Nat → Int32 := va_up (ziA31 xs) 45 (fun _ => 0)
def ziF59 : Nat → Nat → Nat := va_up ziF58 44 (va_up (ziF58 44) 5 45)
def ziC46 : Nat → Nat := va_up ziC45 46 100
def ziL34 (Ln : Nat) : Nat → Nat := va_up (ziL33 Ln) 46 6
def ziA33 (xs : Nat → Int32) : Nat → Nat → Int32 := va_up (ziA32 xs) 46 (fun _ => 0)
def ziF60 : Nat → Nat → Nat := va_up ziF59 44 (va_up (ziF59 44) 6 46)
def ziC47 : Nat → Nat := va_up ziC46 47 100
def ziL35 (Ln : Nat) : Nat → Nat := va_up (ziL34 Ln) 47 6
def ziA34 (xs : Nat → Int32) : Nat → Nat → Int32 := va_up (ziA33 xs) 47 (fun _ => 0)
def ziF61 : Nat → Nat → Nat := va_up ziF60 44 (va_up (ziF60 44) 7 47)
def ziC48 : Nat → Nat := va_up ziC47 48 100
def ziL36 (Ln : Nat) : Nat → Nat := va_up (ziL35 Ln) 48 6
def ziA35 (xs : Nat → Int32) : Nat → Nat → Int32 := va_up (ziA34 xs) 48 (fun _ => 0)
def ziF62 : Nat → Nat → Nat := va_up ziF61 44 (va_up (ziF61 44) 8 48)
def ziC49 : Nat → Nat := va_up ziC48 49 100
def ziL37 (Ln : Nat) : Nat → Nat := va_up (ziL36 Ln) 49 6
def ziA36 (xs : Nat → Int32) : Nat → Nat → Int32 := va_up (ziA35 xs) 49 (fun _ => 0)
def ziF63 : Nat → Nat → Nat := va_up ziF62 44 (va_up (ziF62 44) 9 49)
def ziC50 : Nat → Nat := va_up ziC49 50 100
def ziL38 (Ln : Nat) : Nat → Nat := va_up (ziL37 Ln) 50 6
def ziA37 (xs : Nat → Int32) : Nat → Nat → Int32 := va_up (ziA36 xs) 50 (fun _ => 0)
def ziF64 : Nat → Nat → Nat := va_up ziF63 44 (va_up (ziF63 44) 16 50)
def ziC51 : Nat → Nat := va_up ziC50 51 100
def ziL39 (Ln : Nat) : Nat → Nat := va_up (ziL38 Ln) 51 6
def ziA38 (xs : Nat → Int32) : Nat → Nat → Int32 := va_up (ziA37 xs) 51 (fun _ => 0)
def ziF65 : Nat → Nat → Nat := va_up ziF64 44 (va_up (ziF64 44) 17 51)
def ziC52 : Nat → Nat := va_up ziC51 52 100
def ziL40 (Ln : Nat) : Nat → Nat := va_up (ziL39 Ln) 52 6
def ziA39 (xs : Nat → Int32) : Nat → Nat → Int32 := va_up (ziA38 xs) 52 (fun _ => 0)
def ziF66 : Nat → Nat → Nat := va_up ziF65 44 (va_up (ziF65 44) 18 52)
def ziC53 : Nat → Nat := va_up ziC52 53 100
def ziL41 (Ln : Nat) : Nat → Nat := va_up (ziL40 Ln) 53 6
def ziA40 (xs : Nat → Int32) : Nat → Nat → Int32 := va_up (ziA39 xs) 53 (fun _ => 0)
def ziF67 : Nat → Nat → Nat := va_up ziF66 44 (va_up (ziF66 44) 19 53)
def ziC54 : Nat → Nat := va_up ziC53 54 100
def ziL42 (Ln : Nat) : Nat → Nat := va_up (ziL41 Ln) 54 6
def ziA41 (xs : Nat → Int32) : Nat → Nat → Int32 := va_up (ziA40 xs) 54 (fun _ => 0)
def ziF68 : Nat → Nat → Nat := va_up ziF67 44 (va_up (ziF67 44) 21 54)
def ziC55 : Nat → Nat := va_up ziC54 55 100
def ziL43 (Ln : Nat) : Nat → Nat := va_up (ziL42 Ln) 55 6
def ziA42 (xs : Nat → Int32) : Nat → Nat → Int32 := va_up (ziA41 xs) 55 (fun _ => 0)
def ziF69 : Nat → Nat → Nat := va_up ziF68 44 (va_up (ziF68 44) 22 55)
def ziC56 : Nat → Nat := va_up ziC55 56 100
def ziL44 (Ln : Nat) : Nat → Nat := va_up (ziL43 Ln) 56 6
def ziA43 (xs : Nat → Int32) : Nat → Nat → Int32 := va_up (ziA42 xs) 56 (fun _ => 0)
def ziF70 : Nat → Nat → Nat := va_up ziF69 44 (va_up (ziF69 44) 23 56)
def ziC57 : Nat → Nat := va_up ziC56 57 100
def ziL45 (Ln : Nat) : Nat → Nat := va_up (ziL44 Ln) 57 6
def ziA44 (xs : Nat → Int32) : Nat → Nat → Int32 := va_up (ziA43 xs) 57 (fun _ => 0)
def ziF71 : Nat → Nat → Nat := va_up ziF70 44 (va_up (ziF70 44) 24 57)
def ziC58 : Nat → Nat := va_up ziC57 58 100
def ziL46 (Ln : Nat) : Nat → Nat := va_up (ziL45 Ln) 58 6
def ziA45 (xs : Nat → Int32) : Nat → Nat → Int32 := va_up (ziA44 xs) 58 (fun _ => 0)
def ziF72 : Nat → Nat → Nat := va_up ziF71 44 (va_up (ziF71 44) 25 58)
def ziC59 : Nat → Nat := va_up ziC58 59 100
def ziL47 (Ln : Nat) : Nat → Nat := va_up (ziL46 Ln) 59 64
def ziA46 (xs : Nat → Int32) : Nat → Nat → Int32 := va_up (ziA45 xs) 59 (fun _ => 0)
def ziF73 : Nat → Nat → Nat := va_up ziF72 44 (va_up (ziF72 44) 28 59)
def ziC60 : Nat → Nat := va_up ziC59 60 100
def ziL48 (Ln : Nat) : Nat → Nat := va_up (ziL47 Ln) 60 64
def ziA47 (xs : Nat → Int32) : Nat → Nat → Int32 := va_up (ziA46 xs) 60 (fun _ => 0)
def ziF74 : Nat → Nat → Nat := va_up ziF73 44 (va_up (ziF73 44) 29 60)
def ziC61 : Nat → Nat := va_up ziC60 61 101
def ziL49 (Ln : Nat) : Nat → Nat := va_up (ziL48 Ln) 61 64
def ziA48 (xs : Nat → Int32) : Nat → Nat → Int32 := va_up (ziA47 xs) 61 (fun _ => 0)
def ziF75 : Nat → Nat → Nat := va_up ziF74 44 (va_up (ziF74 44) 30 61)
def ziC62 : Nat → Nat := va_up ziC61 62 100
def ziL50 (Ln : Nat) : Nat → Nat := va_up (ziL49 Ln) 62 6
def ziA49 (xs : Nat → Int32) : Nat → Nat → Int32 := va_up (ziA48 xs) 62 (fun _ => 0)
def ziF76 : Nat → Nat → Nat := va_up ziF75 44 (va_up (ziF75 44) 32 62)
def ziC63 : Nat → Nat := va_up ziC62 63 100
def ziL51 (Ln : Nat) : Nat → Nat := va_up (ziL50 Ln) 63 6
def ziA50 (xs : Nat → Int32) : Nat → Nat → Int32 := va_up (ziA49 xs) 63 (fun _ => 0)
def ziF77 : Nat → Nat → Nat := va_up ziF76 44 (va_up (ziF76 44) 33 63)
def ziC64 : Nat → Nat := va_up ziC63 64 101
def ziL52 (Ln : Nat) : Nat → Nat := va_up (ziL51 Ln) 64 6
def ziA51 (xs : Nat → Int32) : Nat → Nat → Int32 := va_up (ziA50 xs) 64 (fun _ => 0)
def ziF78 : Nat → Nat → Nat := va_up ziF77 44 (va_up (ziF77 44) 34 64)
def ziC65 : Nat → Nat := va_up ziC64 65 100
def ziL53 (Ln : Nat) : Nat → Nat := va_up (ziL52 Ln) 65 4
def ziA52 (xs : Nat → Int32) : Nat → Nat → Int32 := va_up (ziA51 xs) 65 (fun _ => 0)
def ziF79 : Nat → Nat → Nat := va_up ziF78 44 (va_up (ziF78 44) 35 65)
def ziC66 : Nat → Nat := va_up ziC65 66 100
def ziL54 (Ln : Nat) : Nat → Nat := va_up (ziL53 Ln) 66 4
def ziA53 (xs : Nat → Int32) : Nat → Nat → Int32 := va_up (ziA52 xs) 66 (fun _ => 0)
def ziF80 : Nat → Nat → Nat := va_up ziF79 44 (va_up (ziF79 44) 36 66)
def ziC67 : Nat → Nat := va_up ziC66 67 100
def ziL55 (Ln : Nat) : Nat → Nat := va_up (ziL54 Ln) 67 240
def ziA54 (xs : Nat → Int32) : Nat → Nat → Int32 := va_up (ziA53 xs) 67 (fun _ => 0)
def ziF81 : Nat → Nat → Nat := va_up ziF80 44 (va_up (ziF80 44) 37 67)
def ziC68 : Nat → Nat := va_up ziC67 68 100
def ziL56 (Ln : Nat) : Nat → Nat := va_up (ziL55 Ln) 68 60
def ziA55 (xs : Nat → Int32) : Nat → Nat → Int32 := va_up (ziA54 xs) 68 (fun _ => 0)
def ziF82 : Nat → Nat → Nat := va_up ziF81 44 (va_up (ziF81 44) 38 68)
def ziA56 (xs : Nat → Int32) : Nat → Nat → Int32 := va_up (ziA55 xs) 65 (upd ((ziA55 xs) 65) 0 (-1))
def ziA57 (xs : Nat → Int32) : Nat → Nat → Int32 := va_up (ziA56 xs) 65 (upd ((ziA56 xs) 65) 1 (-1))
def ziA58 (xs : Nat → Int32) : Nat → Nat → Int32 := va_up (ziA57 xs) 65 (upd ((ziA57 xs) 65) 2 (-1))
def ziA59 (xs : Nat → Int32) : Nat → Nat → Int32 := va_up (ziA58 xs) 65 (upd ((ziA58 xs) 65) 3 (-1))
