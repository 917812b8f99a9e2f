/-! MY OWN KIT, nine: one of two inspectors -/
theorem GGW_gP {D : va_G} {cI cC cZ cQ : ClassId} {q z : Nat} {X : GSt × GSt} {H : Heap} (h : va_P D vwCl (GGW cI cC cZ cQ q z X) H) : va_P D vwCl (GW cI cC cZ cQ q X.1) H := gL h
theorem GGW_gQ {D : va_G} {cI cC cZ cQ : ClassId} {q z : Nat} {X : GSt × GSt} {H : Heap} (h : va_P D vwCl (GGW cI cC cZ cQ q z X) H) : va_P D vwCl (GW cI cC cZ cQ z X.2) H := gR h
