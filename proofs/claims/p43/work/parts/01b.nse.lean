/-! NoSuchElementException(String) of this JDK calls its super constructor by entry 13, not 7: the words of its throw, so -/
def yrx13 : ByteArray := ⟨#[0x2a, 0x2b, 0xb7, 0x00, 0x0d, 0xb1]⟩
def yat_S (own : String) (ic : Nat) (X : String) (names : List String) : List Cond := (Bundle.ownAtomsX own ic X 13 yrx13 names).filter vx_no
