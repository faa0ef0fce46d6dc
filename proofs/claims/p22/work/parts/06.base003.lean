/-- a field that holds one of two arrays, or null, by a number: 0 null, 1 the first, 2 the second -/
def rdv (a b k : Nat) : Value := if k = 0 then .null else if k = 1 then .ref a else .ref b
