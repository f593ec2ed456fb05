theorem t3 {m p1 : Int} : gpad (gnL m_M_isThing) (gEn [(2, (m + 0)), (0, p1)]) = [(2, (m + 0)), (0, p1)] := rfl
