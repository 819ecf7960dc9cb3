/-! what a resident is, in numbers -/
def seatsS (k : Int32) : Int32 := if k = 1 then 3 else if k = 6 then 4 else if k = 2 ∨ k = 3 ∨ k = 4 then 1 else 2
def plainS (g : Int32) : Int32 := if 12 < 2 * g then 12 else 2 * g
def gainsS (k g : Int32) : Int32 := if k = 1 ∨ k = 6 then plainS g + g else if k = 2 then plainS g / 2 else if k = 3 ∨ k = 4 then plainS g / 2 + 5 else if k = 5 then (if 6 < g then plainS g - 2 else plainS g) else plainS g
def losesS (k t v : Int32) : Int32 := if k = 1 ∨ k = 6 then 2 else if k = 2 then 1 else if k = 3 then (if 4 ≤ t then 2 else 1) else if k = 4 then 0 else if k = 5 then 3 + v else 3
def sharesS (k m : Int32) : Int32 := if k = 6 ∨ k = 3 then 1 else if k = 4 then 0 else if 70 ≤ m then 1 else 0
def clampS (v : Int32) : Int32 := if 0 < (if v < 99 then v else 99) then (if v < 99 then v else 99) else 0
def tallyS (v : Int32) : Int32 := if v + 1 < 9999 then v + 1 else 9999
def wellS (m : Int32) : Int32 := if 60 ≤ m then 1 else 0
