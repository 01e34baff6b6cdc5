/-! READING: leaves -/
def p10 (n : Int) : Int := 10 ^ n.toNat
