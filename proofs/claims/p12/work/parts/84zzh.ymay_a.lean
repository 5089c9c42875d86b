/-! CAN, UNTIL, exactly: the reference -/
